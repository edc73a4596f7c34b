import java.util.concurrent.Callable;

/**
 * Promise by promise what is due, reckoned by hand. Most of it is asked of one game: from STATE 30 (ZONE 7,
 * FREE 2) one gets to 31 by 50, from 31 a GOAL comes by 40, a ball is LOST by 20; nothing follows elsewhere.
 */
public final class PromiseTest {
    private static final String PLACE = "java.lang.IndexOutOfBoundsException";
    private static final String NUMBER = "java.lang.IllegalArgumentException";
    private static final String ROOM = "java.lang.UnsupportedOperationException";
    private static final String WHAT = "java.util.NoSuchElementException";
    private static final long NONE = -1;
    private static final int LEAST = Integer.MIN_VALUE;
    private static final int MOST = Integer.MAX_VALUE;

    private static final int ALWAYS = 0;
    private static final int NEVER = 1;
    private static final int BAR = 2;
    private static final int BEST = 3;
    private static final int LAST = 4;
    private static final int RULE = 5;

    private static final String GAME =
            "at 7 2 to 7 3 50;at 7 3 goal 40;at 7 3 lost 20;kick 7 1000;even 1";

    private PromiseTest() {
    }

    public static void main(String[] args) throws Exception {
        newObject();
        tape();
        gameTexts();
        gameFaults();
        goalTexts();
        ruleTexts();
        depths();
        faults();
        whatIsThere();
        told();
        lettingOn();
        stops();
        judges();
        rules();
        deeds();
        graceWorth();
        losses();
        parts();
        bars();
        payingFouls();
        leastCards();
        rates();
        matches();
        learning();
        learningByPatience();
        twoFouls();
        leaning();
        playing();
        endings();
        means();
        plainJudges();
        rightStates();
        resting();
        seasons();
        images();
        counts();
        Check.end("PromiseTest");
    }

    private static void due(String what, Callable<?> call, Object due) {
        Check.due(what, Check.answer(call), due instanceof Integer ? (Object) (long) (Integer) due : due);
    }

    private static Object told(Tell tell) {
        return Check.answer(() -> {
            tell.tell();
            return "told";
        });
    }

    private interface Tell {
        void tell();
    }

    private static WhistleBook fed(WhistleBook x, String text) throws Exception {
        Check.feed(x::feed, x::end, text);
        return x;
    }

    /** The game above, HORIZON 2, GRACE 1, a SORT with CARD 500 that is forgotten by 20. */
    private static WhistleBook match() throws Exception {
        WhistleBook x = fed(new WhistleBook(), GAME);
        x.game();
        x.horizon(2);
        x.sort(500, 20);
        return x;
    }

    private static WhistleBook ruled(String rule) throws Exception {
        WhistleBook x = fed(match(), rule);
        x.rule();
        return x;
    }

    private static void game(String text, Object due) throws Exception {
        due("game() of " + text, fed(new WhistleBook(), text)::game, due);
    }

    private static void gameFault(String text, int due) throws Exception {
        WhistleBook x = fed(new WhistleBook(), text);
        due("game() of " + text, x::game, NUMBER);
        due("fault of " + text, x::fault, due);
    }

    private static void goalsFault(String text, int due) throws Exception {
        WhistleBook x = fed(new WhistleBook(), text);
        due("goals() of " + text, x::goals, NUMBER);
        due("fault of " + text, x::fault, due);
    }

    private static void ruleFault(String text, int due) throws Exception {
        WhistleBook x = fed(new WhistleBook(), text);
        due("rule() of " + text, x::rule, NUMBER);
        due("fault of " + text, x::fault, due);
    }

    // Promise 1
    private static void newObject() {
        WhistleBook x = new WhistleBook();
        due("NONE", () -> WhistleBook.NONE, NONE);
        for (int state = 0; state < 32; state++) {
            int at = state;
            due("stays at " + at, () -> x.follows(at, 34), 100);
            due("to itself at " + at, () -> x.follows(at, at), 0);
            due("kick " + at / 4, () -> x.kick(at / 4), 0);
        }
        int[] counts = {0, 0, 0, 0, 2, 20, 0, 0, 0, 0};
        for (int what = 0; what < counts.length; what++) {
            int asked = what;
            due("count " + what, () -> x.count(asked), counts[what]);
        }
        due("goal", x::goal, 10000);
        due("fault", x::fault, NONE);
        due("back", x::back, false);
        due("no SORT", () -> x.stop(0, 0, false), PLACE);
        due("no RULE", () -> x.match(5, 0, true), PLACE);
        due("no FOULS", () -> x.match(0, 0, false), 0);
        due("no bytes", () -> x.end(1), false);
    }

    // Promises 2 and 3
    private static void tape() throws Exception {
        WhistleBook x = new WhistleBook();
        for (int n = 1; n <= 20; n++) {
            due("feed " + n, () -> x.feed(1, 2, 3, 4, 5), 20 * n);
        }
        due("feed 21", () -> x.feed(0, 0, 0, 0, 0), NONE);
        due("end 401", () -> x.end(401), false);
        due("end -1", () -> x.end(-1), false);
        due("end least", () -> x.end(LEAST), false);
        due("end most", () -> x.end(MOST), false);
        due("end 400", () -> x.end(400), true);
        due("feed at 400", () -> x.feed(0, 0, 0, 0, 0), NONE);
        due("end 381", () -> x.end(381), true);
        due("feed at 381", () -> x.feed(0, 0, 0, 0, 0), NONE);
        due("end 380", () -> x.end(380), true);
        due("end 381 of 380", () -> x.end(381), false);
        due("feed at 380", () -> x.feed(0, 0, 0, 0, 0), 400);
        due("end 7", () -> x.end(7), true);
        due("feed at 7", () -> x.feed(0, 0, 0, 0, 0), 27);
        due("end 0", () -> x.end(0), true);
        due("end 0 again", () -> x.end(0), true);

        // "even 07;kick 3 0012;" and "kick 4 9 \0\0..": the highest byte of each number comes first.
        due("text", () -> x.feed(0x6576656e, 0x2030373b, 0x6b69636b, 0x20332030, 0x3031323b), 20);
        due("text on", () -> x.feed(0x6b69636b, 0x20342039, 0x20000000, 0, 0), 40);
        due("cut", () -> x.end(29), true);
        due("game", x::game, 1);
        due("used up", () -> x.end(1), false);
        due("GRACE", () -> x.count(4), 7);
        due("kick 3", () -> x.kick(3), 12);
        due("kick 4", () -> x.kick(4), 9);
        fed(x, "nonsense");
        due("wrong", x::game, NUMBER);
        due("wrong is used up", () -> x.end(1), false);
        due("highest bytes", () -> x.feed(0xff000000, 0, 0, 0, 0), 20);
        due("wrong byte", x::rule, NUMBER);
        due("its place", x::fault, 0);
    }

    // Promise 4
    private static void gameTexts() throws Exception {
        WhistleBook x = fed(new WhistleBook(), GAME);
        due("game", x::game, 1);
        due("30 to 31", () -> x.follows(30, 31), 50);
        due("GRACE", () -> x.count(4), 1);
        fed(x, "  at7 2to 7  3 060 ; at 7 2 lost 40;at 7 2 to 7 2 0;even 10  ");
        due("a second text", x::game, 2);
        due("30 to 31 from then on", () -> x.follows(30, 31), 60);
        due("30 LOST", () -> x.follows(30, 33), 40);
        due("31 GOAL as before", () -> x.follows(31, 32), 40);
        due("kick as before", () -> x.kick(7), 1000);
        due("GRACE 10", () -> x.count(4), 10);
        fed(x, "at 7 2 goal 1;even 3;kick 0 5");
        due("above 100", x::game, NUMBER);
        due("GRACE as before", () -> x.count(4), 10);
        due("kick 0 as before", () -> x.kick(0), 0);
        due("GOAL as before", () -> x.follows(30, 32), 0);
        fed(x, "at 7 2 goal 1;at 7 2 to 7 3 59");
        due("above 100 in between", x::game, 3);
        fed(x, "");
        due("no LINE", x::game, 4);
        fed(x, "   ");
        due("blanks", x::game, 5);
        for (int n = 6; n <= 12; n++) {
            due("text " + n, x::game, n);
        }
        fed(x, "even 1");
        due("text 13", x::game, ROOM);
        due("its fault", x::fault, NONE);
        due("it is used up", () -> x.end(1), false);
        due("GRACE stays", () -> x.count(4), 10);
        fed(x, "even");
        due("wrong text 13", x::game, NUMBER);
        due("its fault", x::fault, 4);
        due("12 texts", () -> x.count(0), 12);

        game("at 0 0 to 0 0 100", 1);
        game("at 7 3 goal 0000;at 7 3 lost 0100", 1);
        game("kick 7 9999;kick 0 0;even 0;even 10", 1);
        game("even 1;even 1;even 1;even 1;even 1;even 1;even 1;even 1;even 1;even 1;even 1;even 1", 1);
    }

    // Promises 4 and 7
    private static void gameFaults() throws Exception {
        gameFault(";", 0);
        gameFault("even 1;", 7);
        gameFault("even 1 ; ", 9);
        gameFault("even 1;;", 7);
        gameFault("even 1 even 2", 7);
        gameFault("even 11", 5);
        gameFault("even 00001", 5);
        gameFault("even -1", 5);
        gameFault("even\t1", 4);
        gameFault("evens 1", 0);
        gameFault("Even 1", 0);
        gameFault("  eve 1", 2);
        gameFault("even", 4);
        gameFault("even   ", 7);
        gameFault("12 even", 0);
        gameFault("at 8 0 goal 1", 3);
        gameFault("at 00 4 goal 1", 6);
        gameFault("at 00 goal 1", 6);
        gameFault("at 0 0 goals 1", 7);
        gameFault("at 0 0 goal 101", 12);
        gameFault("at 0 0 lost 101", 12);
        gameFault("at 0 0 to 8 0 1", 10);
        gameFault("at 0 0 to 0 4 1", 12);
        gameFault("at 0 0 to 0 3 101", 14);
        gameFault("at 0 0 to 0 3", 13);
        gameFault("at 0 0 to", 9);
        gameFault("at 0 0", 6);
        gameFault("at 0", 4);
        gameFault("at", 2);
        gameFault("at 0 0 to goal 1", 10);
        gameFault("at 0 0 goal 1 2", 14);
        gameFault("at 0 0 goal 1\u00ff", 13);
        gameFault("at 0 0 goal 1\u0000", 13);
        gameFault("kick 8 1", 5);
        gameFault("kick 1 10000", 7);
        gameFault("kick 1", 6);
        gameFault("kick 1 minute", 7);
        gameFault("add 1", 0);
        gameFault("at 0 0 goal 100;at 0 0 lost 1;kick 0 5 ", 39);
        String twelve = "even 1;even 1;even 1;even 1;even 1;even 1;even 1;even 1;even 1;even 1;even 1;even 1";
        gameFault(twelve + "; even 1", 85);
        gameFault(twelve + ";", 84);
        gameFault(twelve + "; 7", 85);
        gameFault(twelve + " even", 84);
    }

    private static WhistleBook withGoals(WhistleBook x, String text, int lines) throws Exception {
        fed(x, text);
        due("goals() of " + text, x::goals, lines);
        due("fault of " + text, x::fault, NONE);
        due("LINES of " + text, () -> x.count(1), lines);
        return x;
    }

    // Promises 5, 7 and 11
    private static void goalTexts() throws Exception {
        WhistleBook x = new WhistleBook();
        due("none told", x::goal, 10000);
        withGoals(x, "add 5;less 2", 2);
        due("told", x::goal, 3);
        x.now(40, -3);
        withGoals(x, "add 100 * minute;add 7 * behind;add 1000 * ahead", 3);
        due("factors behind", x::goal, 4021);
        x.now(40, 2);
        due("factors ahead", x::goal, 6000);
        withGoals(x, "add 1 if minute > 39;add 10 if minute>40;add 100 if minute < 41;add 1000 if minute < 40", 4);
        due("above and below", x::goal, 101);
        withGoals(x, "add 1 if 1+2 < 2 + ahead;add 2 if ahead + minute + 1 > 42;add 4 if ahead+minute+1>43", 3);
        due("sums", x::goal, 3);
        withGoals(x, "add 1 if 1 > 0 or 1 > 0 and 0 > 1;add 2 if (1 > 0 or 1 > 0) and 0 > 1;add 4 if not 0 > 1 and 1 > 0", 3);
        due("what joins first", x::goal, 5);
        withGoals(x, "add 1 if not (1 > 0 and 0 > 1);add 2 if not not 0 > 1;add 4 if not (not (1>0))", 3);
        due("not", x::goal, 5);
        withGoals(x, "add 9999;add 9999;add 9999;add 9999", 4);
        due("30000 at most", x::goal, 30000);
        withGoals(x, "less 9999;add 9999;add 2", 3);
        due("cut behind all", x::goal, 2);
        withGoals(x, "less 5", 1);
        due("0 at least", x::goal, 0);
        withGoals(x, "", 0);
        due("an empty one", x::goal, 0);
        withGoals(x, "add 1;add 2;add 4;add 8;add 16;add 32;add 64;add 128;add 256;add 512;add 1024;add 2048", 12);
        due("12 LINES", x::goal, 4095);
        withGoals(x, "add 1 if not not not not not not 1 > 0;add 2 if ((((((1>0))))))", 2);
        due("6 deep", x::goal, 3);
        goalsFault("add 1 if not not not not not not not 1 > 0", 33);
        goalsFault("add 1 if (((((((1 > 0)))))))", 15);
        withGoals(x, "add 8 if minute>39", 1);
        fed(x, "add");
        due("wrong goals", x::goals, NUMBER);
        due("those before stay", x::goal, 8);
        due("wrong is used up", () -> x.end(1), false);

        goalsFault("add", 3);
        goalsFault("add minute", 4);
        goalsFault("add 10000", 4);
        goalsFault("add 1 *", 7);
        goalsFault("add 1 * 2", 8);
        goalsFault("add 1 * second", 8);
        goalsFault("add 1 * minute * ahead", 15);
        goalsFault("add 1 if", 8);
        goalsFault("add 1 if late", 9);
        goalsFault("add 1 if zone > 1", 9);
        goalsFault("add 1 if kick > 1", 9);
        goalsFault("add 1 if 1 > 1 * ahead", 15);
        goalsFault("add 1 if (1 > 1", 15);
        goalsFault("add 1 if (1 > 1))", 16);
        goalsFault("add 1 if 1 = 1", 11);
        goalsFault("add 1 if 1 + > 1", 13);
        goalsFault("add 1 if 1 > 1 > 1", 15);
        goalsFault("add 1 if 10000 > 1", 9);
        goalsFault("stop if 1 > 0", 0);
        goalsFault("add 1;", 6);
        goalsFault("add 1;add 1;add 1;add 1;add 1;add 1;add 1;add 1;add 1;add 1;add 1;add 1;add 1", 72);
    }

    // Promises 6 and 7
    private static void ruleTexts() throws Exception {
        WhistleBook x = new WhistleBook();
        for (int n = 0; n < 4; n++) {
            fed(x, n == 0 ? "" : "stop if zone<1;play if late and not second>1");
            due("rule " + n, x::rule, 5 + n);
            due("its fault", x::fault, NONE);
        }
        fed(x, "stop if late");
        due("a fifth", x::rule, ROOM);
        due("its fault", x::fault, NONE);
        due("it is used up", () -> x.end(1), false);
        fed(x, "stop late");
        due("a wrong fifth", x::rule, NUMBER);
        due("its fault", x::fault, 5);
        due("RULES", () -> x.count(2), 4);

        ruleFault("stop", 4);
        ruleFault("stop if", 7);
        ruleFault("stop when late", 5);
        ruleFault("stop if lately", 8);
        ruleFault("stop if not", 11);
        ruleFault("stop if late > 1", 13);
        ruleFault("stop if late late", 13);
        ruleFault("stop if late and", 16);
        ruleFault("stop if late or or", 16);
        ruleFault("stop if late)", 12);
        ruleFault("stop if (late", 13);
        ruleFault("stop if ()", 9);
        ruleFault("stop if (zone) > 1", 13);
        ruleFault("stop if zone", 12);
        ruleFault("stop if zone and", 13);
        ruleFault("stop if 1 + late > 1", 12);
        ruleFault("stop if score > 1", 8);
        ruleFault("wait if free < 4;", 17);
        ruleFault("add 1", 0);
        ruleFault("play if zone+free+second+kick+minute+ahead+behind", 49);
    }

    private static void depths() throws Exception {
        due("6 not", fed(new WhistleBook(), "play if not not not not not not late")::rule, 5);
        due("6 (", fed(new WhistleBook(), "play if ((((((late))))))")::rule, 5);
        due("6 of both", fed(new WhistleBook(), "play if (not (not (not late)))")::rule, 5);
        due("6, and 6 again",
                fed(new WhistleBook(), "play if ((((((late)))))) or ((((((late and (1>0)")::rule, NUMBER);
        due("not deep again", fed(new WhistleBook(), "play if not late and not late and not late and not late"
                + " and not late and not late and not late and not late")::rule, 5);
        ruleFault("play if not not not not not not not late", 32);
        ruleFault("play if (((((((late", 14);
        ruleFault("play if (not (not (not (late))))", 23);
        ruleFault("play if (not (not (not not late)))", 23);
    }

    // Promise 7
    private static void faults() throws Exception {
        WhistleBook x = fed(new WhistleBook(), "at 0 0");
        due("ahead of any", x::fault, NONE);
        due("wrong", x::game, NUMBER);
        due("its fault", x::fault, 6);
        x.count(0);
        due("it stays", x::fault, 6);
        due("bad call", () -> x.kick(9), PLACE);
        due("it stays behind another exception", x::fault, 6);
        due("a right one", fed(x, "add 1")::goals, 1);
        due("no fault", x::fault, NONE);
    }

    // Promises 8 and 9
    private static void whatIsThere() throws Exception {
        WhistleBook x = match();
        due("30 to 31", () -> x.follows(30, 31), 50);
        due("30 to 30", () -> x.follows(30, 30), 0);
        due("30 stays", () -> x.follows(30, 34), 50);
        due("31 GOAL", () -> x.follows(31, 32), 40);
        due("31 LOST", () -> x.follows(31, 33), 20);
        due("31 stays", () -> x.follows(31, 34), 40);
        due("what 35", () -> x.follows(31, 35), WHAT);
        due("what -1", () -> x.follows(31, -1), WHAT);
        due("state 32", () -> x.follows(32, 35), PLACE);
        due("state -1", () -> x.follows(-1, 0), PLACE);
        due("state least", () -> x.follows(LEAST, 0), PLACE);
        due("kick", () -> x.kick(7), 1000);
        due("kick 6", () -> x.kick(6), 0);
        due("kick 8", () -> x.kick(8), PLACE);
        due("kick -1", () -> x.kick(-1), PLACE);
    }

    // Promises 10, 12, 13, 14, 15 and 16
    private static void told() throws Exception {
        WhistleBook x = new WhistleBook();
        due("now", () -> told(() -> x.now(90, -9)), "told");
        due("minute 91", () -> told(() -> x.now(91, 0)), NUMBER);
        due("minute -1", () -> told(() -> x.now(-1, 0)), NUMBER);
        due("score 10", () -> told(() -> x.now(0, 10)), NUMBER);
        due("score -10", () -> told(() -> x.now(0, -10)), NUMBER);
        due("MINUTE", () -> x.count(6), 90);
        due("SCORE", () -> x.count(7), -9);
        due("now 0 9", () -> told(() -> x.now(0, 9)), "told");
        due("SCORE 9", () -> x.count(7), 9);
        due("lost 9999", () -> told(() -> x.lost(9999)), "told");
        due("lost 10000", () -> told(() -> x.lost(10000)), NUMBER);
        due("lost -1", () -> told(() -> x.lost(-1)), NUMBER);
        due("lost 0", () -> told(() -> x.lost(0)), "told");
        due("horizon 60", () -> told(() -> x.horizon(60)), "told");
        due("horizon 61", () -> told(() -> x.horizon(61)), NUMBER);
        due("horizon 0", () -> told(() -> x.horizon(0)), NUMBER);
        due("horizon -5", () -> told(() -> x.horizon(-5)), NUMBER);
        due("HORIZON", () -> x.count(5), 60);
        due("horizon 1", () -> told(() -> x.horizon(1)), "told");
        due("HORIZON 1", () -> x.count(5), 1);
        due("grace 10", () -> told(() -> x.grace(10)), "told");
        due("grace 11", () -> told(() -> x.grace(11)), NUMBER);
        due("grace -1", () -> told(() -> x.grace(-1)), NUMBER);
        due("GRACE", () -> x.count(4), 10);
        due("grace 0", () -> told(() -> x.grace(0)), "told");
        due("GRACE 0", () -> x.count(4), 0);
        due("patience 99", () -> told(() -> x.patience(99)), "told");
        due("patience 100", () -> told(() -> x.patience(100)), NUMBER);
        due("patience -1", () -> told(() -> x.patience(-1)), NUMBER);
        due("sort 0", () -> x.sort(9999, 100), 0);
        due("card 10000", () -> x.sort(10000, 0), NUMBER);
        due("card -1", () -> x.sort(-1, 0), NUMBER);
        due("forgotten 101", () -> x.sort(0, 101), NUMBER);
        due("forgotten -1", () -> x.sort(0, -1), NUMBER);
        for (int n = 1; n < 6; n++) {
            due("sort " + n, () -> x.sort(0, 0), n);
        }
        due("sort 6", () -> x.sort(0, 0), ROOM);
        due("wrong sort 6", () -> x.sort(0, 101), NUMBER);
        due("SORTS", () -> x.count(3), 6);
    }

    // Promise 17
    private static void lettingOn() throws Exception {
        WhistleBook x = match();
        due("31 by 0", () -> x.worth(31, 0), 0);
        due("31 by 1", () -> x.worth(31, 1), 4000);
        due("31 by 2", () -> x.worth(31, 2), 5600);
        due("30 by 1", () -> x.worth(30, 1), 0);
        due("30 by 2", () -> x.worth(30, 2), 2000);
        due("0 by 60", () -> x.worth(0, 60), 0);
        due("beyond HORIZON", () -> x.worth(31, 3), 6240);
        due("t 61", () -> x.worth(31, 61), NUMBER);
        due("t -1", () -> x.worth(31, -1), NUMBER);
        due("state 32", () -> x.worth(32, 61), PLACE);
        due("state -1", () -> x.worth(-1, 0), PLACE);
        x.lost(9999);
        due("LOST too", () -> x.worth(31, 1), 2000);
        withGoals(x, "add 1", 1);
        due("rounded towards below", () -> x.worth(31, 1), -2000);
        x.lost(3);
        due("rounded towards below 0", () -> x.worth(31, 1), -1);
        due("again, by half", () -> x.worth(30, 2), -1);
        withGoals(x, "add 100 * minute", 1);
        x.now(10, 0);
        x.lost(0);
        due("GOAL WORTH by minute", () -> x.worth(31, 1), 400);
    }

    // Promise 18
    private static void stops() throws Exception {
        WhistleBook x = match();
        due("stop", () -> x.stop(0, 7, false), 1500);
        due("after", () -> x.stop(0, 7, true), 400);
        due("stop elsewhere", () -> x.stop(0, 6, false), 500);
        x.sort(7, 51);
        due("rounded down", () -> x.stop(1, 0, true), 3);
        x.rate(1, 0, 5);
        x.rate(1, 31, 6);
        x.rate(0, 31, 900);
        x.patience(2);
        due("patience", () -> x.stop(1, 0, false), 12);
        due("patience afterwards", () -> x.stop(1, 0, true), 5);
        due("each SORT its own", () -> x.stop(0, 0, false), 950);
        x.patience(99);
        due("patience is great", () -> x.stop(1, 0, false), 7);
        due("sort 2", () -> x.stop(2, 0, false), PLACE);
        due("sort -1", () -> x.stop(-1, 0, true), PLACE);
        due("zone 8", () -> x.stop(0, 8, false), PLACE);
        due("zone -1", () -> x.stop(0, -1, true), PLACE);
    }

    // Promise 19
    private static void judges() throws Exception {
        WhistleBook x = match();
        due("ALWAYS", () -> x.judge(ALWAYS, 0, 0, 7, 30, 0), 1500);
        due("NEVER at 30", () -> x.judge(NEVER, 0, 0, 7, 30, 0), 2400);
        due("NEVER at 31", () -> x.judge(NEVER, 0, 0, 7, 31, 0), 6000);
        due("NEVER a second later", () -> x.judge(NEVER, 0, 0, 7, 31, 1), 4400);
        due("BAR waits", () -> x.judge(BAR, 30, 0, 7, 30, 0), 2400);
        due("BAR waits at 31", () -> x.judge(BAR, 31, 0, 7, 31, 0), 6220);
        due("BAR stops", () -> x.judge(BAR, 31, 0, 7, 30, 0), 1500);
        due("BEST at 30", () -> x.judge(BEST, 0, 0, 7, 30, 0), 2950);
        due("BEST at 31", () -> x.judge(BEST, 0, 0, 7, 31, 0), 6220);
        due("BEST at GRACE", () -> x.judge(BEST, 0, 0, 7, 30, 1), 1500);
        due("LAST at 30", () -> x.judge(LAST, 0, 0, 7, 30, 0), 2950);
        due("LAST where it should stop", () -> x.judge(LAST, 0, 0, 7, 29, 0), 1500);
        due("the FOUL's ZONE", () -> x.judge(BEST, 0, 0, 6, 30, 1), 500);
        due("another ZONE's kick", () -> x.judge(ALWAYS, 0, 0, 0, 30, 0), 500);
        x.horizon(1);
        x.grace(10);
        due("T is over", () -> x.judge(NEVER, 0, 0, 7, 31, 10), 400);
        due("j 11", () -> x.judge(NEVER, 0, 0, 7, 31, 11), NUMBER);
        x.grace(0);
        due("waits at GRACE 0", () -> x.judge(BAR, 31, 0, 7, 31, 0), 4400);
        due("j 1 of 0", () -> x.judge(ALWAYS, 0, 0, 7, 31, 1), NUMBER);
        due("j -1", () -> x.judge(ALWAYS, 0, 0, 7, 31, -1), NUMBER);
        due("bar 32", () -> x.judge(BAR, 32, 0, 7, 31, 0), NUMBER);
        due("bar -1", () -> x.judge(BAR, -1, 0, 7, 31, 0), NUMBER);
        due("bar of another", () -> x.judge(BEST, LEAST, 0, 7, 31, 0), 4400);
        due("judge 5", () -> x.judge(5, 0, 0, 7, 31, 0), PLACE);
        due("judge -1", () -> x.judge(-1, 0, 0, 7, 31, 0), PLACE);
        due("sort 1", () -> x.judge(0, 0, 1, 7, 31, 0), PLACE);
        due("zone 8", () -> x.judge(0, 0, 0, 8, 31, 0), PLACE);
        due("state 32", () -> x.judge(0, 0, 0, 7, 32, 0), PLACE);
        due("state NONE", () -> x.judge(0, 0, 0, 7, -1, 0), PLACE);
        due("place first", () -> x.judge(BAR, 32, 0, 7, 32, 99), PLACE);
        // A GOAL while one waits brings AFTERWARDS, a LOST ball the STOP: 40 of 10400, 20 of 1500, 40 of 400.
        x.grace(1);
        due("by chances", () -> x.judge(BAR, 31, 0, 7, 31, 0), 4160 + 300 + 160);
    }

    // Promises 6, 19 and 20
    private static void rules() throws Exception {
        WhistleBook x = ruled("stop if zone < 7 or free < 2;play if second > 0;wait if free > 2");
        due("stops", () -> x.does(RULE, 0, 0, 7, 29, 0), 0);
        due("stops by the ball's ZONE", () -> x.does(RULE, 0, 0, 7, 3, 0), 0);
        due("the FOUL's ZONE counts not", () -> x.does(RULE, 0, 0, 0, 31, 0), 2);
        due("plays", () -> x.does(RULE, 0, 0, 7, 30, 1), 1);
        due("waits", () -> x.does(RULE, 0, 0, 7, 31, 0), 2);
        due("without a LINE", () -> x.does(RULE, 0, 0, 7, 30, 0), 2);
        due("worth", () -> x.judge(RULE, 0, 0, 7, 30, 0), 2400);
        due("worth stopped", () -> x.judge(RULE, 0, 0, 7, 0, 0), 1500);

        WhistleBook first = ruled("wait if zone > 6;stop if zone > 5;play if zone > 4");
        due("the first holds", () -> first.does(RULE, 0, 0, 0, 30, 0), 2);
        due("the second", () -> first.does(RULE, 0, 0, 0, 24, 0), 0);
        due("the third", () -> first.does(RULE, 0, 0, 0, 20, 0), 1);
        due("waits at GRACE", () -> first.does(RULE, 0, 0, 0, 30, 1), 1);

        WhistleBook kick = ruled("stop if kick > 999;play if minute + ahead > 80 + behind");
        due("kick of the FOUL's ZONE", () -> kick.does(RULE, 0, 0, 7, 0, 0), 0);
        due("no kick", () -> kick.does(RULE, 0, 0, 0, 30, 0), 2);
        kick.now(80, 1);
        due("minute and ahead", () -> kick.does(RULE, 0, 0, 0, 30, 0), 1);
        kick.now(81, -1);
        due("behind", () -> kick.does(RULE, 0, 0, 0, 30, 0), 2);

        WhistleBook late = ruled("play if late");
        late.sort(0, 99);
        late.sort(0, 100);
        due("not late", () -> late.does(RULE, 0, 0, 0, 0, 0), 2);
        due("nearly late", () -> late.does(RULE, 0, 1, 0, 0, 0), 2);
        due("late", () -> late.does(RULE, 0, 2, 0, 0, 0), 1);
        fed(late, "").rule();
        due("an empty one waits", () -> late.does(RULE + 1, 0, 0, 0, 0, 0), 2);
        due("as the first one", () -> late.does(RULE, 0, 2, 0, 0, 0), 1);
        due("no third", () -> late.does(RULE + 2, 0, 0, 0, 0, 0), PLACE);

        StringBuilder text = new StringBuilder();
        for (int n = 0; n < 11; n++) {
            text.append("wait if 1 > 2;");
        }
        WhistleBook twelfth = ruled(text + "stop if 2 > 1");
        due("the twelfth LINE", () -> twelfth.does(RULE, 0, 0, 0, 0, 0), 0);
    }

    // Promise 20
    private static void deeds() throws Exception {
        WhistleBook x = match();
        due("ALWAYS", () -> x.does(ALWAYS, 0, 0, 7, 31, 1), 0);
        due("NEVER", () -> x.does(NEVER, 0, 0, 7, 0, 0), 1);
        due("BAR waits", () -> x.does(BAR, 31, 0, 7, 31, 0), 2);
        due("BAR lets on at GRACE", () -> x.does(BAR, 31, 0, 7, 31, 1), 1);
        due("BAR stops", () -> x.does(BAR, 31, 0, 7, 30, 0), 0);
        due("BEST waits", () -> x.does(BEST, 0, 0, 7, 30, 0), 2);
        due("BEST stops", () -> x.does(BEST, 0, 0, 7, 29, 0), 0);
        due("BEST lets on", () -> x.does(BEST, 0, 0, 7, 31, 1), 1);
        due("LAST waits", () -> x.does(LAST, 0, 0, 7, 29, 0), 2);
        due("LAST stops", () -> x.does(LAST, 0, 0, 7, 29, 1), 0);
        due("LAST lets on", () -> x.does(LAST, 0, 0, 7, 31, 1), 1);
        x.sort(0, 0);
        due("BEST stops, if all are alike", () -> x.does(BEST, 0, 1, 0, 0, 0), 0);
        due("LAST stops, if both are alike", () -> x.does(LAST, 0, 1, 0, 0, 1), 0);
        due("j 2", () -> x.does(ALWAYS, 0, 0, 7, 31, 2), NUMBER);
        due("bar 32", () -> x.does(BAR, 32, 0, 7, 31, 0), NUMBER);
        due("bar of another", () -> x.does(LAST, 32, 0, 7, 31, 0), 2);
        due("judge 5", () -> x.does(5, 0, 0, 7, 31, 9), PLACE);
        due("sort -1", () -> x.does(0, 0, -1, 7, 31, 0), PLACE);
        due("zone -1", () -> x.does(0, 0, 0, -1, 31, 0), PLACE);
        due("state 32", () -> x.does(0, 0, 0, 7, 32, 0), PLACE);
        // From 26 a GOAL comes at once and is worth the same however long one waits.
        fed(x, "at 6 2 goal 100").game();
        due("BEST lets on, if waiting is alike", () -> x.does(BEST, 0, 1, 0, 26, 0), 1);
    }

    // Promises 21 and 22
    private static void graceWorth() throws Exception {
        WhistleBook x = match();
        due("30", () -> x.waits(0, 7, 30), 550);
        due("31", () -> x.waits(0, 7, 31), 220);
        due("29", () -> x.waits(0, 7, 29), 0);
        due("ENOUGH at 29", () -> x.enough(0, 7, 29), 0);
        // Behind T one may still wait, and each second is worth more at 31.
        due("ENOUGH at 31", () -> x.enough(0, 7, 31), 10);
        due("GRACE stays", () -> x.count(4), 1);
        x.grace(0);
        due("GRACE 0", () -> x.waits(0, 7, 30), 0);
        x.horizon(60);
        // 7066, then 4460 and 40 of the one before: 7286, 7374, 7409, 7423, 7429, 7431, 7432, 7432.
        due("ENOUGH by a long T", () -> x.enough(0, 7, 31), 7);
        x.grace(3);
        due("GRACE WORTH by a long T", () -> x.waits(0, 7, 31), 7409 - 7066);
        due("waits sort", () -> x.waits(1, 7, 30), PLACE);
        due("waits zone", () -> x.waits(0, 8, 30), PLACE);
        due("waits state", () -> x.waits(0, 7, -1), PLACE);
        due("enough sort", () -> x.enough(-1, 7, 30), PLACE);
        due("enough zone", () -> x.enough(0, -1, 30), PLACE);
        due("enough state", () -> x.enough(0, 7, 32), PLACE);
    }

    // Promise 23
    private static void losses() throws Exception {
        WhistleBook x = match();
        due("ALWAYS at 30", () -> x.loses(ALWAYS, 0, 0, 7, 30), 1450);
        due("ALWAYS at 31", () -> x.loses(ALWAYS, 0, 0, 7, 31), 4720);
        due("ALWAYS at 29", () -> x.loses(ALWAYS, 0, 0, 7, 29), 0);
        due("ALWAYS over all", () -> x.loses(ALWAYS, 0, 0, 7, -1), 6170);
        due("NEVER over all", () -> x.loses(NEVER, 0, 0, 7, -1), 550 + 220 + 30 * 1100);
        due("BAR over all", () -> x.loses(BAR, 30, 0, 7, -1), 550);
        due("BEST over all", () -> x.loses(BEST, 99, 0, 7, -1), 0);
        due("LAST at 0", () -> x.loses(LAST, 0, 0, 7, 0), 0);
        due("bar", () -> x.loses(BAR, -1, 0, 7, 0), NUMBER);
        due("state -2", () -> x.loses(BAR, -1, 0, 7, -2), PLACE);
        due("state 32", () -> x.loses(0, 0, 0, 7, 32), PLACE);
        due("judge", () -> x.loses(5, 0, 0, 7, 0), PLACE);
        due("sort", () -> x.loses(0, 0, 1, 7, 0), PLACE);
        due("zone", () -> x.loses(0, 0, 0, 8, 0), PLACE);
    }

    // Promise 24
    private static void parts() throws Exception {
        WhistleBook x = match();
        due("ALWAYS and NEVER", () -> x.part(ALWAYS, NEVER, 0, 0, 7, false), 64);
        due("their first", () -> x.part(ALWAYS, NEVER, 0, 0, 7, true), 0);
        due("none", () -> x.part(BEST, BEST, 0, 0, 7, false), 0);
        due("no first", () -> x.part(BEST, BEST, 0, 0, 7, true), NONE);
        // BAR 30 waits at 30 at GRACE, BEST stops there.
        due("BEST and BAR", () -> x.part(BEST, BAR, 30, 0, 7, false), 1);
        due("their first", () -> x.part(BEST, BAR, 30, 0, 7, true), 62);
        due("BAR and ALWAYS", () -> x.part(BAR, ALWAYS, 31, 0, 7, true), 31);
        due("BAR and itself", () -> x.part(BAR, BAR, 31, 0, 7, true), NONE);
        x.grace(0);
        due("by GRACE 0", () -> x.part(ALWAYS, NEVER, 0, 0, 7, false), 32);
        due("bar of one", () -> x.part(BAR, BEST, 32, 0, 7, true), NUMBER);
        due("bar of the other", () -> x.part(BEST, BAR, -1, 0, 7, true), NUMBER);
        due("bar of none", () -> x.part(BEST, LAST, -1, 0, 7, true), NONE);
        due("one", () -> x.part(5, BAR, -1, 0, 7, true), PLACE);
        due("other", () -> x.part(BAR, -1, -1, 0, 7, true), PLACE);
        due("sort", () -> x.part(0, 0, 0, 1, 7, true), PLACE);
        due("zone", () -> x.part(0, 0, 0, 0, 8, true), PLACE);
    }

    // Promise 25
    private static void bars() throws Exception {
        WhistleBook x = match();
        due("BEST BAR", () -> x.bar(0, 7), 30);
        x.sort(0, 0);
        due("of several the least", () -> x.bar(1, 0), 0);
        x.sort(4000, 100);
        // Stopping is worth 5000; waiting 6600 at 31, 2000 at 30.
        due("BEST BAR by a great CARD", () -> x.bar(2, 7), 31);
        due("sort", () -> x.bar(3, 0), PLACE);
        due("zone", () -> x.bar(0, 8), PLACE);
        due("zone -1", () -> x.bar(0, -1), PLACE);
    }

    // Promise 26
    private static void payingFouls() throws Exception {
        WhistleBook x = match();
        due("ALWAYS", () -> x.pays(ALWAYS, 0, 0), 3 << 30);
        due("NEVER", () -> x.pays(NEVER, 0, 0), 0);
        due("BEST", () -> x.pays(BEST, 0, 0), 0);
        due("BAR 31", () -> x.pays(BAR, 31, 0), 1 << 30);
        x.sort(1000, 100);
        due("alike does not pay", () -> x.pays(ALWAYS, 0, 1), 1 << 31);
        x.sort(999, 100);
        due("less pays", () -> x.pays(ALWAYS, 0, 2), 3 << 30);
        fed(x, "at 0 0 goal 1;at 1 0 goal 1;kick 1 101").game();
        x.horizon(1);
        x.sort(0, 0);
        due("each in its ZONE", () -> x.pays(ALWAYS, 0, 3), 1 | 1 << 31);
        due("bar", () -> x.pays(BAR, 32, 0), NUMBER);
        due("judge", () -> x.pays(5, 0, 0), PLACE);
        due("sort", () -> x.pays(BAR, 32, 4), PLACE);
    }

    // Promise 27
    private static void leastCards() throws Exception {
        WhistleBook x = match();
        due("31", () -> x.least(ALWAYS, 0, 0, 1 << 31), 4600);
        due("30", () -> x.least(ALWAYS, 0, 0, 1 << 30), 1000);
        due("both", () -> x.least(ALWAYS, 0, 0, 3 << 30), 4600);
        due("all", () -> x.least(ALWAYS, 0, 0, -1), 4600);
        due("others", () -> x.least(ALWAYS, 0, 0, MOST >> 1), 0);
        due("no STATE", () -> x.least(ALWAYS, 0, 0, 0), 0);
        due("NEVER", () -> x.least(NEVER, 0, 0, -1), 0);
        due("its own CARD counts not", () -> x.stop(0, 7, false), 1500);
        x.rate(0, 0, 100);
        x.patience(3);
        due("by PATIENCE 33 less", () -> x.least(ALWAYS, 0, 0, 1 << 31), 4567);
        x.rate(0, 0, 0);
        withGoals(x, "add 9999;add 9999;add 9999", 3);
        due("none", () -> x.least(ALWAYS, 0, 0, 1 << 31), NONE);
        // LETTING ON at 31 is worth 10998, 10999, 11000; the kick 1000.
        withGoals(x, "add 9821;add 9820", 2);
        due("the greatest", () -> x.least(ALWAYS, 0, 0, 1 << 31), 9998);
        withGoals(x, "add 9821;add 9821", 2);
        due("the very greatest", () -> x.least(ALWAYS, 0, 0, 1 << 31), 9999);
        withGoals(x, "add 9822;add 9821", 2);
        due("just none", () -> x.least(ALWAYS, 0, 0, 1 << 31), NONE);
        x.rate(0, 0, 100);
        due("just none but for PATIENCE", () -> x.least(ALWAYS, 0, 0, 1 << 31), 10000 - 33);
        due("bar", () -> x.least(BAR, -1, 0, 0), NUMBER);
        due("judge", () -> x.least(-1, 0, 0, 0), PLACE);
        due("sort", () -> x.least(0, 0, 1, 0), PLACE);
    }

    // Promises 28 and 29
    private static void rates() throws Exception {
        WhistleBook x = match();
        due("first", () -> x.rate(0, 31, 999), 0);
        due("then", () -> x.rate(0, 31, 3), 999);
        due("often", () -> x.often(0, 31), 3);
        due("elsewhere", () -> x.often(0, 30), 0);
        due("1000", () -> x.rate(0, 31, 1000), NUMBER);
        due("-1", () -> x.rate(0, 31, -1), NUMBER);
        due("it stays", () -> x.often(0, 31), 3);
        due("sort", () -> x.rate(1, 31, 1000), PLACE);
        due("state", () -> x.rate(0, 32, 0), PLACE);
        due("state -1", () -> x.rate(0, -1, 0), PLACE);
        due("often's sort", () -> x.often(1, 0), PLACE);
        due("often's sort -1", () -> x.often(-1, 0), PLACE);
        due("often's state", () -> x.often(0, 32), PLACE);
        x.sort(0, 0);
        due("another SORT", () -> x.often(1, 31), 0);
        due("to 0", () -> x.rate(0, 31, 0), 3);
    }

    // Promise 30
    private static void matches() throws Exception {
        WhistleBook x = match();
        due("no RATES", () -> x.match(ALWAYS, 0, false), 0);
        x.rate(0, 30, 3);
        x.rate(0, 31, 2);
        x.rate(0, 0, 4);
        due("ALWAYS", () -> x.match(ALWAYS, 0, false), 5 * 1500 + 4 * 500);
        due("STOPPED by ALWAYS", () -> x.match(ALWAYS, 0, true), 9);
        due("STOPPED by NEVER", () -> x.match(NEVER, 0, true), 0);
        due("STOPPED by BEST", () -> x.match(BEST, 0, true), 4);
        due("STOPPED by BAR", () -> x.match(BAR, 31, true), 7);
        x.rate(0, 0, 0);
        x.rate(0, 30, 0);
        x.now(85, -1);
        // 56 hundredths of 100, 1100, .. 8100 by minute (and 100 by SCORE) and 400, twice.
        withGoals(x, "add 100 * minute;add 100 * behind", 2);
        due("by minutes", () -> x.match(NEVER, 0, false), 2 * (56 * 41 + 400));
        withGoals(x, "add 1 if minute > 79;less 1", 2);
        x.lost(1);
        // At 80 minutes as at all others: 20 of -1, rounded down twice: -1, and -20 less 40 by 100: -1; 399 twice.
        due("rounded down", () -> x.match(NEVER, 0, false), 798);
        fed(x, "stop if minute > 84;stop if minute < 10").rule();
        due("STOPPED NOW", () -> x.match(RULE, 0, true), 2);
        x.now(84, 0);
        due("STOPPED another time", () -> x.match(RULE, 0, true), 0);
        due("NOW is as it was", () -> x.count(6), 84);
        due("bar", () -> x.match(BAR, 32, true), NUMBER);
        due("judge", () -> x.match(6, 32, true), PLACE);
        due("judge -1", () -> x.match(-1, 0, false), PLACE);

        WhistleBook ninth = match();
        ninth.rate(0, 31, 1);
        fed(ninth, "play if minute > 79;stop if 1 > 0").rule();
        // Eight times 1500, once 6000.
        due("one of nine", () -> ninth.match(RULE, 0, false), 2000);
        ninth.horizon(1);
        due("one of nine by 1 second", () -> ninth.match(RULE, 0, false), (8 * 1500 + 4400) / 9);
        ninth.lost(15);
        due("8 ninths are none", () -> ninth.match(RULE, 0, false), (8 * 1500 + 4397) / 9);
    }

    // Promise 31
    private static void learning() throws Exception {
        WhistleBook x = match();
        due("nothing to learn", () -> x.learn(ALWAYS, 0), 0);
        x.rate(0, 31, 997);
        x.rate(0, 5, 1);
        due("up to 999", () -> x.learn(ALWAYS, 0), 2);
        due("999", () -> x.often(0, 31), 999);
        due("down to 0", () -> x.often(0, 5), 0);
        due("0 stays", () -> x.often(0, 30), 0);
        due("at rest", () -> x.learn(ALWAYS, 0), 0);
        x.rate(0, 31, 60);
        due("60 rounds", () -> x.learn(BEST, 0), 60);
        due("0 at rest", () -> x.often(0, 31), 0);
        x.rate(0, 31, 61);
        x.rate(0, 1, 7);
        due("61 rounds", () -> x.learn(BEST, 0), NONE);
        due("RATES stay", () -> x.often(0, 31), 61);
        due("all of them", () -> x.often(0, 1), 7);
        x.sort(1200, 0);
        x.rate(0, 31, 999);
        x.rate(0, 1, 0);
        x.rate(1, 30, 2);
        due("each SORT by its own CARD", () -> x.learn(ALWAYS, 0), 2);
        due("bar", () -> x.learn(BAR, 32), NUMBER);
        due("judge", () -> x.learn(5, 32), PLACE);
        due("judge -1", () -> x.learn(-1, 0), PLACE);
    }

    private static void learningByPatience() throws Exception {
        WhistleBook x = match();
        x.sort(0, 0);
        x.patience(1);
        x.rate(1, 30, 999);
        due("1999 for 2000", () -> x.learn(ALWAYS, 0), 0);
        x.rate(1, 29, 3);
        // 29 does not pay and falls ahead of 30 in turn: 2 left, 1001 more: 30 falls; 1 left, 999: it rises; 0.
        due("in turn", () -> x.learn(ALWAYS, 0), 3);
        due("30", () -> x.often(1, 30), 999);
        due("29", () -> x.often(1, 29), 0);
    }

    // Promise 32
    private static void twoFouls() throws Exception {
        WhistleBook x = match();
        x.sort(500, 0);
        x.sort(501, 0);
        due("alike", () -> x.two(0, 7, 1, 7, 30, false), 0);
        due("alike is worth", () -> x.two(0, 7, 1, 7, 30, true), 0);
        due("the second", () -> x.two(0, 7, 2, 7, 30, false), 2);
        due("the second is worth", () -> x.two(0, 7, 2, 7, 30, true), -1501);
        due("the first", () -> x.two(0, 7, 2, 6, 30, false), 1);
        due("the first is worth", () -> x.two(0, 7, 2, 6, 30, true), 2950);
        due("the first sort", () -> x.two(3, 7, 2, 6, 30, true), PLACE);
        due("the first zone", () -> x.two(0, 8, 2, 6, 30, true), PLACE);
        due("the second sort", () -> x.two(0, 7, -1, 6, 30, false), PLACE);
        due("the second zone", () -> x.two(0, 7, 2, -1, 30, false), PLACE);
        due("state", () -> x.two(0, 7, 1, 7, 32, false), PLACE);
        x.rate(0, 0, 10);
        x.patience(10);
        due("by PATIENCE", () -> x.two(0, 7, 1, 7, 30, false), 1);
    }

    // Promise 33
    private static void leaning() {
        WhistleBook x = new WhistleBook();
        due("5 of 6", () -> x.leans(2, 1, 2, 1, false), 5);
        due("of 6", () -> x.leans(2, 1, 2, 1, true), 6);
        due("all on the first", () -> x.leans(3, 3, 3, 0, false), 1);
        due("of 20", () -> x.leans(3, 3, 3, 0, true), 20);
        due("none on the first", () -> x.leans(3, 0, 3, 3, false), 20);
        due("no FOULS", () -> x.leans(0, 0, 0, 0, false), 1);
        due("of all", () -> x.leans(0, 0, 0, 0, true), 1);
        due("many", () -> x.leans(30, 15, 30, 15, true), 118264581564861424L);
        due("half of many", () -> x.leans(30, 15, 30, 15, false),
                (118264581564861424L + 155117520L * 155117520L) / 2);
        due("30 of 30", () -> x.leans(30, 30, 30, 0, false), 1);
        due("31", () -> x.leans(31, 0, 0, 0, false), NUMBER);
        due("31 there", () -> x.leans(0, 0, 31, 0, true), NUMBER);
        due("-1", () -> x.leans(-1, 0, 0, 0, false), NUMBER);
        due("-1 there", () -> x.leans(0, 0, -1, 0, false), NUMBER);
        due("more than there are", () -> x.leans(5, 6, 5, 5, false), NUMBER);
        due("more than there are there", () -> x.leans(5, 5, 5, 6, true), NUMBER);
        due("stops -1", () -> x.leans(5, -1, 5, 5, true), NUMBER);
        due("stops -1 there", () -> x.leans(5, 1, 5, -1, true), NUMBER);
    }

    // Promise 34. By the SEED 1 the DRAWS are 16838, 5758, 10113, 17515, 31051, 5627, 23010, ..
    private static void playing() throws Exception {
        WhistleBook x = match();
        due("stopped", () -> x.played(ALWAYS, 0, 0, 7, 30, 1), 0);
        due("LOST in the second second", () -> x.played(NEVER, 0, 0, 7, 30, 1), 202);
        due("a GOAL", () -> x.played(NEVER, 0, 0, 7, 31, 1), 101);
        due("let on at GRACE", () -> x.played(BAR, 30, 0, 7, 30, 1), 202);
        due("nothing", () -> x.played(NEVER, 0, 0, 7, 0, 1), 302);
        due("stopped where the ball comes", () -> x.played(LAST, 0, 0, 7, 0, 1), 1);
        x.grace(2);
        due("LOST while it waits", () -> x.played(BAR, 30, 0, 7, 30, 1), 2);
        due("stopped at the end of T", () -> x.played(LAST, 0, 0, 7, 0, 1), 2);
        x.grace(3);
        due("T is over while it waits", () -> x.played(LAST, 0, 0, 7, 0, 1), 302);
        x.horizon(1);
        due("nothing in a second", () -> x.played(NEVER, 0, 0, 7, 30, 1), 301);
        // 12345 by 65536 is 0; 2147483647 times and 12345 goes round to 1043980748, by 65536: 15929.
        due("seed 0", () -> x.played(NEVER, 0, 0, 7, 31, 0), 101);
        due("seed most", () -> x.played(NEVER, 0, 0, 7, 31, MOST), 101);
        fed(x, "at 0 0 to 0 1 30;at 0 0 to 7 3 8;at 0 0 goal 1;at 0 0 lost 60;at 0 1 goal 100").game();
        due("38 is behind both MOVES", () -> x.played(NEVER, 0, 0, 7, 0, 1), 101);
        x.horizon(2);
        // 0 is below the first MOVE.
        due("the first MOVE", () -> x.played(NEVER, 0, 0, 7, 0, 0), 102);
        due("bar", () -> x.played(BAR, 32, 0, 7, 0, 0), NUMBER);
        due("judge", () -> x.played(5, 32, 0, 7, 0, 0), PLACE);
        due("sort", () -> x.played(0, 0, 1, 7, 0, 0), PLACE);
        due("zone", () -> x.played(0, 0, 0, 8, 0, 0), PLACE);
        due("state", () -> x.played(0, 0, 0, 7, 32, 0), PLACE);
    }

    // Promise 35
    private static void endings() throws Exception {
        WhistleBook x = match();
        due("stopped at once", () -> x.ends(ALWAYS, 0, 0, 7, 30, 0), 1000000);
        due("no GOAL then", () -> x.ends(ALWAYS, 0, 0, 7, 30, 1), 0);
        due("a GOAL", () -> x.ends(NEVER, 0, 0, 7, 30, 1), 200000);
        due("LOST", () -> x.ends(NEVER, 0, 0, 7, 30, 2), 100000);
        due("not stopped", () -> x.ends(NEVER, 0, 0, 7, 30, 0), 0);
        due("a GOAL from 31", () -> x.ends(NEVER, 0, 0, 7, 31, 1), 560000);
        due("LOST in the first second", () -> x.ends(BAR, 30, 0, 7, 31, 0), 200000);
        due("LOST in the second", () -> x.ends(BAR, 30, 0, 7, 31, 2), 80000);
        x.grace(2);
        due("LOST in either", () -> x.ends(BAR, 30, 0, 7, 31, 0), 280000);
        due("LOST in neither", () -> x.ends(BAR, 30, 0, 7, 31, 2), 0);
        due("stopped at the end of T", () -> x.ends(LAST, 0, 0, 7, 0, 0), 1000000);
        x.grace(3);
        due("T is over", () -> x.ends(LAST, 0, 0, 7, 0, 0), 0);
        x.horizon(60);
        due("rounded down", () -> x.ends(NEVER, 0, 0, 7, 31, 1), 666666);
        due("what 3", () -> x.ends(0, 0, 0, 7, 0, 3), WHAT);
        due("what -1", () -> x.ends(0, 0, 0, 7, 0, -1), WHAT);
        due("bar", () -> x.ends(BAR, 32, 0, 7, 0, 3), NUMBER);
        due("judge", () -> x.ends(5, 32, 0, 7, 0, 3), PLACE);
        due("sort", () -> x.ends(0, 0, 1, 7, 0, 0), PLACE);
        due("zone", () -> x.ends(0, 0, 0, 8, 0, 0), PLACE);
        due("state", () -> x.ends(0, 0, 0, 7, -1, 0), PLACE);
    }

    // Promise 36
    private static void means() throws Exception {
        WhistleBook x = match();
        due("no RATES", () -> x.mean(NEVER, 0, 1), 0);
        x.sort(0, 0);
        x.rate(0, 30, 3);
        x.rate(1, 31, 2);
        due("GOALS", () -> x.mean(NEVER, 0, 1), 3 * 200000 + 2 * 560000);
        due("LOST", () -> x.mean(NEVER, 0, 2), 3 * 100000 + 2 * 280000);
        due("stopped", () -> x.mean(BAR, 31, 0), 3 * 1000000 + 2 * 200000);
        x.rate(1, 0, 999);
        due("many", () -> x.mean(ALWAYS, 0, 0), 1004000000L);
        fed(x, "play if kick > 0;stop if kick < 1").rule();
        due("FOULS in their ZONES", () -> x.mean(RULE, 0, 0), 999000000);
        due("what 3", () -> x.mean(ALWAYS, 0, 3), WHAT);
        due("what -1", () -> x.mean(ALWAYS, 0, -1), WHAT);
        due("bar", () -> x.mean(BAR, 32, 3), NUMBER);
        due("judge", () -> x.mean(6, 32, 3), PLACE);
    }

    // Promise 37
    private static void plainJudges() throws Exception {
        WhistleBook x = match();
        due("where the ZONE is below 7, or FREE below 2", () -> x.plain(0, 7), 72);
        x.sort(0, 0);
        due("of several the least", () -> x.plain(1, 0), 0);
        x.sort(9999, 100);
        due("where any FREE is below 4", () -> x.plain(2, 7), 4);
        due("sort", () -> x.plain(3, 0), PLACE);
        due("zone", () -> x.plain(0, 8), PLACE);
        due("zone -1", () -> x.plain(0, -1), PLACE);
    }

    // Promise 38
    private static void rightStates() throws Exception {
        WhistleBook x = match();
        due("BEST", () -> x.right(BEST, 0, 0, 7), -1);
        due("ALWAYS", () -> x.right(ALWAYS, 0, 0, 7), MOST >> 1);
        due("NEVER", () -> x.right(NEVER, 0, 0, 7), 0);
        due("BAR 31", () -> x.right(BAR, 31, 0, 7), ~(1 << 30));
        due("LAST", () -> x.right(LAST, 0, 0, 7), -1);
        due("bar", () -> x.right(BAR, 32, 0, 7), NUMBER);
        due("judge", () -> x.right(5, 32, 0, 7), PLACE);
        due("sort", () -> x.right(0, 0, 1, 7), PLACE);
        due("zone", () -> x.right(0, 0, 0, 8), PLACE);
    }

    // Promise 39. GAINS at 31, 30, other STATES of ZONE 7, others: ALWAYS 4100, 500, -1500, -500;
    // NEVER -400; BAR 30 -620, -400, -1500, -500; BEST and LAST -620, -950, -1500, -500.
    private static void resting() throws Exception {
        WhistleBook x = match();
        due("SAFE", () -> x.rest(30, 0, 0), BEST);
        due("its worst", () -> x.rest(30, 0, 1), -500);
        due("SHREWD", () -> x.rest(30, 0, 2), 0);
        due("its best", () -> x.rest(30, 0, 3), -500);
        due("they REST", () -> x.rest(30, 0, 4), 1);
        x.sort(500, 0);
        // Now NEVER is -500 everywhere, too.
        due("of several the least", () -> x.rest(30, 1, 0), NEVER);
        x.sort(2000, 50);
        fed(x, "play if zone > 6;stop if zone < 7").rule();
        // BEST and LAST: -1400 at 31, -2000 at 30 and outside ZONE 7; NEVER, BAR 0 and the RULE: -1000 somewhere.
        due("by a great CARD", () -> x.rest(0, 2, 0), BEST);
        due("its worst", () -> x.rest(0, 2, 1), -1400);
        due("SHREWD", () -> x.rest(0, 2, 2), 31);
        due("its best", () -> x.rest(0, 2, 3), -1400);
        due("what 5", () -> x.rest(0, 0, 5), WHAT);
        due("what -1", () -> x.rest(31, 0, -1), WHAT);
        due("bar 32", () -> x.rest(32, 0, 5), NUMBER);
        due("bar -1", () -> x.rest(-1, 0, 0), NUMBER);
        due("sort", () -> x.rest(-1, 3, 5), PLACE);

        WhistleBook alone = fed(new WhistleBook(), "at 0 0 goal 50;even 0");
        alone.game();
        alone.horizon(1);
        alone.sort(0, 100);
        fed(alone, "stop if zone < 1;play if zone > 0").rule();
        due("all alike but ALWAYS", () -> alone.rest(0, 0, 0), NEVER);
        due("its worst 0", () -> alone.rest(0, 0, 1), 0);
        due("STATE 0", () -> alone.rest(0, 0, 2), 0);
    }

    // Promise 40. DRAWS modulo 5: 3, 3, 3, 0, 1, 2, 0; modulo 100: 38, 58, 13, 15, 51, 27, 10.
    private static void seasons() throws Exception {
        WhistleBook x = match();
        due("no RATES", () -> x.season(NEVER, 0, 1, 1, 9), NUMBER);
        x.rate(0, 30, 3);
        x.rate(0, 31, 2);
        int[] told = {0, 2, 1, 0, 4};
        for (int what = 0; what < told.length; what++) {
            int asked = what;
            due("of 3, " + what, () -> x.season(NEVER, 0, 3, 1, asked), told[what]);
        }
        due("of 1, LOST", () -> x.season(NEVER, 0, 1, 1, 2), 1);
        due("of 200, stopped", () -> x.season(ALWAYS, 0, 200, -5, 0), 200);
        due("in no second", () -> x.season(ALWAYS, 0, 200, -5, 4), 0);
        due("what 5", () -> x.season(ALWAYS, 0, 200, 1, 5), WHAT);
        due("what -1", () -> x.season(ALWAYS, 0, 200, 1, -1), WHAT);
        due("201", () -> x.season(ALWAYS, 0, 201, 1, 5), NUMBER);
        due("0", () -> x.season(ALWAYS, 0, 0, 1, 5), NUMBER);
        due("bar", () -> x.season(BAR, 32, 1, 1, 5), NUMBER);
        due("judge", () -> x.season(5, 32, 0, 1, 5), PLACE);
        x.rate(0, 30, 0);
        x.rate(0, 31, 0);
        x.sort(0, 0);
        x.rate(1, 3, 1);
        due("another SORT alone", () -> x.season(NEVER, 0, 7, 1, 3), 7);
        due("in 14 seconds", () -> x.season(NEVER, 0, 7, 1, 4), 14);
    }

    // Promises 41 and 42
    private static void images() throws Exception {
        WhistleBook x = match();
        due("none", x::back, false);
        x.rate(0, 31, 7);
        x.now(30, 2);
        x.lost(100);
        x.patience(7);
        fed(x, "stop if late").rule();
        x.image();
        fed(x, "at 7 3 goal 1;kick 7 5;even 9").game();
        fed(x, "add 1").goals();
        fed(x, "play if late").rule();
        x.now(90, -9);
        x.lost(0);
        x.horizon(60);
        x.sort(1, 1);
        x.rate(1, 31, 9);
        x.rate(0, 31, 8);
        x.patience(0);
        due("wrong", fed(x, "at")::game, NUMBER);
        x.feed(0x65766520, 0, 0, 0, 0);
        due("back", x::back, true);
        due("the TAPE stays", () -> x.end(20), true);
        due("fault stays", x::fault, 2);
        int[] counts = {1, 0, 1, 1, 1, 2, 30, 2, 2, 7};
        for (int what = 0; what < counts.length; what++) {
            int asked = what;
            due("count " + what, () -> x.count(asked), counts[what]);
        }
        due("chance", () -> x.follows(31, 32), 40);
        due("kick", () -> x.kick(7), 1000);
        due("goal", x::goal, 10000);
        due("LOST and PATIENCE", () -> x.worth(31, 1) + x.stop(0, 0, false), 4000L - 20 + 501);
        due("no SORT", () -> x.often(1, 31), PLACE);
        x.sort(1, 1);
        due("a new SORT has no RATE", () -> x.often(1, 31), 0);
        x.rate(0, 31, 1);
        due("back again", x::back, true);
        due("RATE", () -> x.often(0, 31), 7);
        x.rate(0, 31, 2);
        x.image();
        x.rate(0, 31, 3);
        due("back to the new one", x::back, true);
        due("its RATE", () -> x.often(0, 31), 2);
        due("the RULE is the old one", () -> x.does(RULE, 0, 0, 0, 0, 0), 2);
        x.sort(0, 100);
        due("and stops", () -> x.does(RULE, 0, 1, 0, 0, 0), 0);
    }

    // Promise 43
    private static void counts() throws Exception {
        WhistleBook x = match();
        int[] counts = {1, 0, 0, 1, 1, 2, 0, 0, 2, 0};
        for (int what = 0; what < counts.length; what++) {
            int asked = what;
            due("count " + what, () -> x.count(asked), counts[what]);
        }
        fed(x, "at 0 0 to 0 0 50;at 0 1 to 0 1 9;at 0 1 lost 1;at 7 2 to 7 3 0;at 1 1 goal 1").game();
        due("STATES", () -> x.count(8), 3);
        fed(x, "add 1;add 2;less 3").goals();
        due("LINES", () -> x.count(1), 3);
        x.sort(0, 0);
        x.rate(1, 4, 999);
        x.rate(0, 31, 5);
        due("RATES", () -> x.count(9), 1004);
        due("10", () -> x.count(10), NONE);
        due("-1", () -> x.count(-1), NONE);
        due("least", () -> x.count(LEAST), NONE);
    }
}
