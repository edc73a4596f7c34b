/** What is due just inside and just outside of what the document's chapters 2 and 3 tell, sentence by sentence. */
public final class EdgeTest {
    // By second 10 behind the FOUL the ball is lost sight of (STATE 10) or gets to where a GOAL comes (STATE 11).
    private static final String CHAIN = "at 0 0 to 0 1 100;at 0 1 to 0 2 100;at 0 2 to 0 3 100;at 0 3 to 1 0 100;"
            + "at 1 0 to 1 1 100;at 1 1 to 1 2 100;at 1 2 to 1 3 100;at 1 3 to 2 0 100;at 2 0 to 2 1 100;"
            + "at 2 1 to 2 2 50;at 2 1 to 2 3 50;at 2 3 goal 100";

    private EdgeTest() {
    }

    public static void main(String[] args) throws Exception {
        states();
        fullGame();
        fullGamePlayed();
        goalWorth();
        roundedDown();
        secondsLeft();
        cards();
        patience();
        afterwards();
        waitsUpToGrace();
        lettingOnBehindT();
        bars();
        ties();
        bestWaits();
        facts();
        late();
        graceWorth();
        parts();
        bestBars();
        pays();
        leastCards();
        leastCardsByPatience();
        rates();
        matches();
        minutes();
        greatest();
        learning();
        learningUpAndDown();
        two();
        leans();
        draws();
        drawsInTurn();
        seeds();
        playedToTheEnd();
        lostWhileItWaits();
        endsRoundedDown();
        plain();
        right();
        rightAtOnce();
        rest();
        seasons();
        seasonsOfAll();
        image();
        imageWithRoom();
        counts();
        lastCall();
        Check.end("EdgeTest");
    }

    private static String place(int state) {
        return state / 4 + " " + state % 4;
    }

    /** A game in which all that is told lies at one STATE, and T is 1. */
    private static WhistleBook at(int state, String told) throws Exception {
        WhistleBook x = Given.game("at " + place(state) + " " + told);
        x.horizon(1);
        return x;
    }

    private static WhistleBook worthOfGoal(WhistleBook x, int n) throws Exception {
        StringBuilder text = new StringBuilder("add 0");
        for (int left = n; left > 0; left -= 9999) {
            text.append(";add ").append(Math.min(left, 9999));
        }
        return Given.goals(x, text.toString());
    }

    // ZONES 0 to 7, FREE 0 to 3: a STATE is 4 ZONE and FREE (0 to 31); what is left of 100 hundredths: it stays.
    private static void states() throws Exception {
        for (int state = 0; state < 32; state++) {
            int other = 31 - state;
            WhistleBook x = at(state, "to " + place(other) + " 100");
            Check.due("MOVE from " + state, x.follows(state, other), 100);
            Check.due("none stays at " + state, x.follows(state, 34), 0);
            Check.due("one STATE", x.count(8), 1);
            Given.game(x, "at " + place(state) + " to " + place(other) + " 99");
            Check.due("1 stays at " + state, x.follows(state, 34), 1);
            Given.game(x, "at " + place(state) + " to " + place(other) + " 0");
            Check.due("all stays at " + state, x.follows(state, 34), 100);
            Check.due("a MOVE of 0 is none", x.count(8), 0);
            Given.game(x, "at " + place(state) + " to " + place(state) + " 100");
            Check.due("to itself at " + state, x.follows(state, state), 100);
            Check.due("that is no staying", x.follows(state, 34), 0);
            Check.due("a MOVE to itself counts not", x.count(8), 0);
            Given.game(x, "at " + place(state) + " to " + place(state) + " 99;at " + place(state) + " lost 1");
            Check.due("LOST counts", x.count(8), 1);
            for (int what = 0; what < 35; what++) {
                Check.due("chance " + what + " from " + state, x.follows(state, what), what == state ? 99
                        : what == 33 ? 1 : 0);
                Check.due("chance " + what + " elsewhere", x.follows(other, what), what == 34 ? 100 : 0);
            }
        }
    }

    /** As many MOVES as 12 texts of 12 LINES can tell, and a GOAL: from each STATE to some, from the last ones, too. */
    private static WhistleBook full() throws Exception {
        WhistleBook x = new WhistleBook();
        for (int text = 0; text < 12; text++) {
            StringBuilder lines = new StringBuilder();
            for (int n = 12 * text; n < 12 * text + 12; n++) {
                int from = 31 - n % 32;
                int to = (from + 1 + 6 * (n / 32)) % 32;
                lines.append(n % 12 == 0 ? "" : ";").append("at ").append(place(from));
                lines.append(n == 143 ? " goal " : " to " + place(to) + " ").append(7 + n % 12);
            }
            Given.game(x, lines.toString());
        }
        x.sort(3000, 60);
        x.lost(77);
        return x;
    }

    // LETTING ON is reckoned here once more out of what follows() answers.
    private static void fullGame() throws Exception {
        WhistleBook x = full();
        Check.due("12 texts", x.count(0), 12);
        Check.due("32 STATES", x.count(8), 32);
        int[][] chances = chancesOf(full(), full(), full(), full());
        long[] left = new long[32];
        for (int t = 1; t <= 7; t++) {
            long[] on = new long[32];
            for (int state = 0; state < 32; state++) {
                long sum = chances[state][32] * 10000L - chances[state][33] * 77L + chances[state][34] * left[state];
                for (int to = 0; to < 32; to++) {
                    sum += chances[state][to] * left[to];
                }
                on[state] = Math.floorDiv(sum, 100L);
                Check.due("LETTING ON at " + state + " by " + t, x.worth(state, t), on[state]);
            }
            left = on;
        }
    }

    /** Each of four alike is asked for eight STATES. */
    private static int[][] chancesOf(WhistleBook... four) {
        int[][] chances = new int[32][35];
        for (int place = 0; place < 32 * 35; place++) {
            int state = place / 35;
            chances[state][place % 35] = four[state / 8].follows(state, place % 35);
        }
        return chances;
    }

    private static void fullGamePlayed() throws Exception {
        WhistleBook x = full();
        x.horizon(9);
        int[][] chances = chancesOf(full(), full(), full(), full());
        for (int run = 0; run < 256; run++) {
            int seed = run * 1000003;
            int state = run % 32;
            int due = 309;
            long now = seed & 0xffffffffL;
            for (int second = 1; second <= 9 && due == 309; second++) {
                now = (now * 1103515245L + 12345L) % 4294967296L;
                int what = 0;
                int below = chances[state][0];
                while (now / 65536 % 32768 % 100 >= below && what < 34) {
                    what++;
                    below += chances[state][what];
                }
                due = what == 32 ? 100 + second : what == 33 ? 200 + second : due;
                state = what < 32 ? what : state;
            }
            Check.due("PLAYED from " + run % 32 + " by " + seed, x.played(1, 0, 0, 0, run % 32, seed), due);
        }
    }

    // GOAL WORTH: what GOALS tell, cut to 0 to 30000; ahead: SCORE, 0 at least; behind: 0 less it, 0 at least.
    private static void goalWorth() throws Exception {
        goal("add 9999;add 9999;add 9999;add 2", 0, 0, 29999);
        goal("add 9999;add 9999;add 9999;add 3", 0, 0, 30000);
        goal("add 9999;add 9999;add 9999;add 4", 0, 0, 30000);
        goal(Given.lines(12, "add 9999"), 0, 0, 30000);
        goal(Given.lines(12, "add 9999 * minute"), 90, 0, 30000);
        goal("add 9999;add 9999;add 9999;add 9999;less 9999", 0, 0, 29997);
        goal("less 9999;add 9999", 0, 0, 0);
        goal("less 9999;add 9998", 0, 0, 0);
        goal("less 9999;add 9999;add 1", 0, 0, 1);
        goal("less 1", 0, 0, 0);
        goal(Given.lines(12, "less 9999 * minute"), 90, 0, 0);
        goal(Given.lines(6, "less 9999 * minute") + ";" + Given.lines(6, "add 9999 * minute"), 90, 0, 0);
        goal("add 9999 * minute;less 9999 * minute;add 5", 90, 0, 5);
        goal("add 1 * minute", 0, 9, 0);
        goal("add 1 * minute", 90, -9, 90);
        int[] scores = {-9, -1, 0, 1, 9};
        for (int score : scores) {
            goal("add 1 * ahead", 7, score, Math.max(0, score));
            goal("add 1 * behind", 7, score, Math.max(0, -score));
            goal("add 1 if ahead > 0;add 2 if behind > 0", 7, score, score > 0 ? 1 : score < 0 ? 2 : 0);
            goal("add 1 if ahead > 8;add 2 if behind > 8", 7, score, score == 9 ? 1 : score == -9 ? 2 : 0);
        }
        for (int minute : new int[] {0, 1, 44, 45, 46, 89, 90}) {
            goal("add 1 if minute > 44;add 2 if minute < 46", minute, 0, (minute > 44 ? 1 : 0) + (minute < 46 ? 2 : 0));
            goal("add 1 if minute > 89;add 2 if minute < 1", minute, 0, minute == 90 ? 1 : minute == 0 ? 2 : 0);
            goal("add 1 if minute + 1 > 45 + 1;add 2 if 0 + 46 > minute + 0", minute, 0,
                    (minute > 45 ? 1 : 0) + (minute < 46 ? 2 : 0));
        }
    }

    private static void goal(String text, int minute, int score, int due) throws Exception {
        WhistleBook x = new WhistleBook();
        x.now(minute, score);
        Check.due("none told at " + minute + ", " + score, x.goal(), 10000);
        Given.goals(x, text);
        Check.due("GOAL WORTH of " + text + " at " + minute + ", " + score, x.goal(), due);
        Given.goals(x, "");
        Check.due("an empty one", x.goal(), 0);
    }

    // By chances: the sum of worths times hundredths, by 100, rounded down (towards below).
    private static void roundedDown() throws Exception {
        int[][] due = {{0, 0, 0}, {99, 0, 0}, {100, 0, 1}, {199, 0, 1}, {200, 0, 2}, {30000, 0, 300}, {0, 1, -1},
            {0, 99, -1}, {0, 100, -1}, {0, 101, -2}, {0, 200, -2}, {0, 9999, -100}, {1, 1, 0}, {1, 2, -1},
            {99, 199, -1}, {99, 200, -2}};
        for (int[] one : due) {
            WhistleBook x = worthOfGoal(at(0, "goal 1;at 0 0 lost 1"), one[0]);
            x.lost(one[1]);
            Check.due("worth of " + one[0] + " less " + one[1], x.worth(0, 1), (long) one[2]);
            x.sort(0, 100);
            Check.due("NEVER", x.judge(1, 0, 0, 0, 0, 0), (long) one[2]);
            x.grace(1);
            // While one waits, what is LOST is stopped for 0.
            Check.due("one that waits", x.judge(2, 0, 0, 0, 0, 0), (long) one[0] / 100);
        }
    }

    // LETTING ON with t seconds left: 0, if t is 0; LOST: less LOST WORTH; a MOVE, or staying: there with t less 1.
    private static void secondsLeft() throws Exception {
        WhistleBook x = Given.game(CHAIN);
        x.horizon(1);
        for (int t = 0; t <= 60; t++) {
            Check.due("0 by " + t, x.worth(0, t), t < 11 ? 0L : 5000L);
            Check.due("9 by " + t, x.worth(9, t), t < 2 ? 0L : 5000L);
            Check.due("11 by " + t, x.worth(11, t), t < 1 ? 0L : 10000L);
            Check.due("10 by " + t, x.worth(10, t), 0L);
        }
        WhistleBook lost = at(31, "lost 100");
        for (int n : new int[] {0, 1, 9998, 9999}) {
            lost.lost(n);
            Check.due("LOST " + n + " by 0", lost.worth(31, 0), 0L);
            Check.due("LOST " + n + " by 1", lost.worth(31, 1), (long) -n);
            Check.due("LOST " + n + " by 60", lost.worth(31, 60), (long) -n);
        }
    }

    // STOP: the kick there and the CARD.
    private static void cards() throws Exception {
        WhistleBook x = Given.game("kick 0 9999;kick 6 1;kick 7 0");
        x.sort(0, 0);
        x.sort(9999, 0);
        int[] kicks = {9999, 0, 0, 0, 0, 0, 1, 0};
        for (int zone = 0; zone < 8; zone++) {
            Check.due("STOP without a CARD in " + zone, x.stop(0, zone, false), kicks[zone]);
            Check.due("STOP with a CARD in " + zone, x.stop(1, zone, false), kicks[zone] + 9999);
            Check.due("no kick AFTERWARDS in " + zone, x.stop(1, zone, true), 9999);
        }
    }

    // If PATIENCE is above 0, a CARD counts as all RATES of its SORT together, by PATIENCE, rounded down, more.
    private static void patience() throws Exception {
        WhistleBook x = new WhistleBook();
        x.sort(1, 0);
        x.sort(2, 0);
        int[][] due = {{0, 99, 0}, {98, 99, 0}, {99, 99, 1}, {197, 99, 1}, {198, 99, 2}, {999, 1, 999}, {999, 0, 0},
            {999, 2, 499}, {1, 1, 1}, {1, 2, 0}, {0, 1, 0}};
        for (int[] one : due) {
            x.rate(0, 31, one[0]);
            x.patience(one[1]);
            String told = " of " + one[0] + " by " + one[1];
            Check.due("CARD" + told, x.stop(0, 3, false), 1 + one[2]);
            Check.due("AFTERWARDS" + told, x.stop(0, 3, true), 1 + one[2]);
            Check.due("another SORT's CARD" + told, x.stop(1, 3, false), 2);
        }
        x.patience(7);
        x.rate(0, 0, 3);
        x.rate(0, 16, 3);
        x.rate(0, 31, 0);
        Check.due("6 of two STATES by 7", x.stop(0, 0, false), 1);
        x.rate(0, 31, 1);
        Check.due("7 of three STATES by 7", x.stop(0, 0, false), 2);
    }

    // AFTERWARDS: CARD times (100 less FORGOTTEN), by 100, rounded down.
    private static void afterwards() {
        int[][] due = {{0, 0, 0}, {1, 0, 1}, {1, 1, 0}, {1, 99, 0}, {1, 100, 0}, {99, 99, 0}, {100, 99, 1},
            {199, 99, 1}, {9999, 0, 9999}, {9999, 1, 9899}, {9999, 99, 99}, {9999, 100, 0}};
        for (int[] one : due) {
            WhistleBook x = new WhistleBook();
            x.sort(one[0], one[1]);
            Check.due("AFTERWARDS of " + one[0] + " by " + one[1], x.stop(0, 0, true), one[2]);
            Check.due("letting on then", x.judge(1, 0, 0, 0, 0, 0), (long) one[2]);
        }
    }

    // Waits: j below GRACE; at GRACE waiting is letting on for good.
    private static void waitsUpToGrace() throws Exception {
        for (int grace = 0; grace <= 10; grace++) {
            WhistleBook x = Given.rule(Given.game("at 7 3 goal 100"), "");
            x.sort(10, 50);
            x.grace(grace);
            for (int j = 0; j <= grace; j++) {
                int waits = j < grace ? 2 : 1;
                String told = " at " + j + " of " + grace;
                Check.due("ALWAYS" + told, x.does(0, 0, 0, 0, 31, j), 0);
                Check.due("NEVER" + told, x.does(1, 0, 0, 0, 31, j), 1);
                Check.due("BAR" + told, x.does(2, 31, 0, 0, 31, j), waits);
                Check.due("LAST before a GOAL" + told, x.does(4, 0, 0, 0, 31, j), waits);
                Check.due("LAST before nothing" + told, x.does(4, 0, 0, 0, 30, j), j < grace ? 2 : 0);
                Check.due("a RULE without a LINE" + told, x.does(5, 0, 0, 0, 31, j), waits);
                Check.due("worth of BAR before nothing" + told, x.judge(2, 0, 0, 0, 30, j), 5L);
                Check.due("worth of LAST before nothing" + told, x.judge(4, 0, 0, 0, 30, j), 10L);
                Check.due("worth of BAR before a GOAL" + told, x.judge(2, 0, 0, 0, 31, j), 10005L);
            }
        }
    }

    // Lets on for good: LETTING ON with T less j (0 at least) and AFTERWARDS.
    private static void lettingOnBehindT() throws Exception {
        WhistleBook x = Given.game("at 7 3 goal 1;even 10");
        x.sort(50, 0);
        // 100, then 100 and 99 of 100 of the one before: 199, 297.01.
        long[] on = {0, 100, 199, 297};
        for (int t = 1; t <= 3; t++) {
            x.horizon(t);
            for (int j = 0; j <= 10; j++) {
                Check.due("let on at " + j + " of " + t, x.judge(1, 0, 0, 0, 31, j), on[Math.max(0, t - j)] + 50);
                Check.due("let on before nothing", x.judge(1, 0, 0, 0, 30, j), 50L);
            }
        }
        // Waiting up to GRACE behind T: 1 of 10050 and 99 of 100 of what is behind, 50 by the end of it.
        Check.due("waiting at 9", x.judge(2, 0, 0, 0, 31, 9), 150L);
        Check.due("waiting at 8", x.judge(2, 0, 0, 0, 31, 8), 249L);
        Check.due("waiting at 10", x.judge(2, 0, 0, 0, 31, 10), 50L);
        // At GRACE nothing is waited for, however sure a GOAL is.
        WhistleBook sure = at(31, "goal 100");
        sure.sort(50, 100);
        for (int grace = 0; grace <= 10; grace++) {
            sure.grace(grace);
            Check.due("BEST at GRACE " + grace, sure.does(3, 0, 0, 0, 31, grace), grace == 0 ? 1 : 0);
            Check.due("LAST at GRACE " + grace, sure.does(4, 0, 0, 0, 31, grace), grace == 0 ? 1 : 0);
            Check.due("BEST is worth at GRACE " + grace, sure.judge(3, 0, 0, 0, 31, grace), grace == 0 ? 10000L : 50L);
            Check.due("BEST ahead of it", sure.does(3, 0, 0, 0, 31, Math.max(0, grace - 1)), grace < 2 ? 1 : 2);
        }
    }

    // BAR (a number b, 0 to 31): waits at STATES of b at least, else stops.
    private static void bars() {
        WhistleBook x = new WhistleBook();
        x.sort(1, 100);
        for (int b = 0; b < 32; b++) {
            Check.due("BAR " + b + " at " + b, x.does(2, b, 0, 0, b, 0), 2);
            Check.due("worth there", x.judge(2, b, 0, 0, b, 0), 0L);
            Check.due("BAR " + b + " at 31", x.does(2, b, 0, 0, 31, 1), 2);
            if (b > 0) {
                Check.due("BAR " + b + " below", x.does(2, b, 0, 0, b - 1, 0), 0);
                Check.due("worth below", x.judge(2, b, 0, 0, b - 1, 0), 1L);
                Check.due("BAR " + b + " at 0", x.does(2, b, 0, 0, 0, 2), 0);
            }
        }
    }

    // BEST: of several: stops, then lets on, then waits. LAST: at GRACE the more (stops, if both are alike).
    private static void ties() throws Exception {
        for (int worth = 99; worth <= 101; worth++) {
            WhistleBook x = worthOfGoal(Given.game("at 0 0 goal 100;at 1 0 lost 100"), worth);
            x.sort(100, 100);
            int more = worth > 100 ? 1 : 0;
            long best = Math.max(worth, 100);
            for (int grace = 0; grace <= 10; grace += 5) {
                x.grace(grace);
                String told = " " + worth + " by GRACE " + grace;
                Check.due("BEST for" + told, x.does(3, 0, 0, 0, 0, 0), more);
                Check.due("BEST for" + told + " at its end", x.does(3, 0, 0, 0, 0, grace), more);
                Check.due("LAST for" + told + " at its end", x.does(4, 0, 0, 0, 0, grace), more);
                Check.due("BEST is worth" + told, x.judge(3, 0, 0, 0, 0, 0), best);
                Check.due("LAST is worth" + told, x.judge(4, 0, 0, 0, 0, grace), best);
                Check.due("BEST stops, if waiting is worth STOP alone", x.does(3, 0, 0, 0, 4, 0), 0);
            }
        }
        WhistleBook none = new WhistleBook();
        none.sort(0, 0);
        Check.due("BEST stops, if all three are alike", none.does(3, 0, 0, 0, 0, 0), 0);
        Check.due("LAST stops, if both are", none.does(4, 0, 0, 0, 0, 2), 0);
    }

    // From STATE 2 one gets by 50 to a GOAL; waiting is worth half a STOP of 1 more, if that is not rounded away.
    private static void bestWaits() throws Exception {
        for (int worth = 7; worth <= 8; worth++) {
            WhistleBook x = worthOfGoal(Given.game("at 0 0 goal 100;at 0 2 to 0 0 50;at 0 2 to 7 0 50;even 1"), worth);
            x.sort(1, 100);
            x.horizon(2);
            boolean odd = worth == 7;
            Check.due("BEST waits, if that is worth more alone: " + worth, x.does(3, 0, 0, 0, 2, 0), odd ? 2 : 1);
            Check.due("what that is worth: " + worth, x.judge(3, 0, 0, 0, 2, 0), 4L);
            Check.due("GRACE WORTH: " + worth, x.waits(0, 0, 2), odd ? 1L : 0L);
            Check.due("ENOUGH: " + worth, x.enough(0, 0, 2), odd ? 1 : 0);
        }
    }

    // FACTS of RULES: zone, free, second, kick, minute, ahead, behind; second: j; kick: that of the FOUL's ZONE.
    private static void facts() throws Exception {
        WhistleBook x = Given.game("kick 0 0;kick 1 9998;kick 7 9999;even 10");
        x.sort(0, 0);
        Given.rule(x, "stop if zone < 1;play if zone > 6");
        Given.rule(x, "stop if free < 1;play if free > 2");
        Given.rule(x, "stop if second < 1;play if second > 9");
        Given.rule(x, "stop if kick < 1;play if kick > 9998");
        for (int state = 0; state < 32; state++) {
            Check.due("zone at " + state, x.does(5, 0, 0, 0, state, 3), state < 4 ? 0 : state > 27 ? 1 : 2);
            Check.due("free at " + state, x.does(6, 0, 0, 0, state, 3), state % 4 == 0 ? 0 : state % 4 == 3 ? 1 : 2);
            Check.due("kick of 1 at " + state, x.does(8, 0, 0, 1, state, 3), 2);
            Check.due("kick of 7 at " + state, x.does(8, 0, 0, 7, state, 3), 1);
            Check.due("kick of 0 at " + state, x.does(8, 0, 0, 0, state, 3), 0);
        }
        for (int j = 0; j <= 10; j++) {
            Check.due("second " + j, x.does(7, 0, 0, 0, 9, j), j == 0 ? 0 : j == 10 ? 1 : 2);
        }
        WhistleBook now = Given.rule(new WhistleBook(), "stop if minute < 1;play if minute > 89");
        Given.rule(now, "stop if ahead > 8;play if behind > 8");
        Given.rule(now, "stop if ahead > 0;play if behind > 0");
        now.sort(0, 0);
        int[][] told = {{0, 9, 0, 0, 0}, {1, 8, 2, 2, 0}, {89, 0, 2, 2, 2}, {90, -8, 1, 2, 1}, {45, -9, 2, 1, 1},
            {0, -1, 0, 2, 1}, {90, 1, 1, 2, 0}};
        for (int[] one : told) {
            now.now(one[0], one[1]);
            for (int rule = 0; rule < 3; rule++) {
                Check.due("RULE " + rule + " by " + one[0] + ", " + one[1], now.does(5 + rule, 0, 0, 0, 0, 0),
                        one[2 + rule]);
            }
        }
    }

    // late: no card would be shown afterwards: FORGOTTEN 100.
    private static void late() throws Exception {
        WhistleBook x = Given.rule(new WhistleBook(), "stop if late;play if not late");
        int[][] sorts = {{1, 99, 1}, {1, 100, 0}, {0, 0, 1}, {0, 100, 0}, {9999, 100, 0}, {9999, 0, 1}};
        for (int[] one : sorts) {
            int sort = x.sort(one[0], one[1]);
            Check.due("late by CARD " + one[0] + " and FORGOTTEN " + one[1], x.does(5, 0, sort, 0, 0, 0), one[2]);
        }
    }

    // GRACE WORTH: more by GRACE than by GRACE 0. ENOUGH: the least GRACE (0 to 10) worth as much as 10.
    private static void graceWorth() throws Exception {
        WhistleBook x = Given.game(CHAIN);
        x.horizon(60);
        x.sort(100, 100);
        for (int state = 0; state <= 11; state++) {
            int needed = state > 9 ? 0 : 10 - state;
            Check.due("ENOUGH at " + state, x.enough(0, 0, state), needed);
            for (int grace = 0; grace <= 10; grace++) {
                x.grace(grace);
                // Half of 10000, and half of the STOP, if one still may.
                Check.due("GRACE WORTH at " + state + " by " + grace, x.waits(0, 0, state),
                        needed > 0 && grace >= needed ? 50L : 0L);
                Check.due("GRACE stays " + grace, x.count(4), grace);
            }
        }
    }

    // PART: all seconds and STATES (32 times j and the STATE) where they DO otherwise: how many, the first; none.
    private static void parts() throws Exception {
        WhistleBook x = Given.rule(new WhistleBook(), "");
        Given.rule(x, "stop if second > 9 and zone > 6 and free > 2");
        Given.rule(x, "stop if second < 1 and zone < 1 and free < 1");
        x.sort(0, 0);
        x.grace(10);
        part(x, 5, 6, 1, 351);
        part(x, 6, 5, 1, 351);
        part(x, 7, 6, 2, 0);
        part(x, 5, 7, 1, 0);
        part(x, 5, 5, 0, -1);
        part(x, 0, 1, 352, 0);
        part(x, 0, 5, 352, 0);
        // NEVER lets on where the others wait; at GRACE that is the same.
        part(x, 1, 5, 320, 0);
        x.grace(9);
        part(x, 5, 6, 0, -1);
        part(x, 0, 1, 320, 0);
        x.grace(0);
        part(x, 1, 5, 0, -1);
        part(x, 0, 1, 32, 0);
        for (int b = 0; b < 32; b++) {
            Check.due("BAR " + b + " and the empty RULE", x.part(2, 5, b, 0, 0, false), b);
            Check.due("BAR " + b + " and ALWAYS, first", x.part(0, 2, b, 0, 0, true), b);
            Check.due("BAR " + b + " and BAR", x.part(2, 2, b, 0, 0, true), -1);
        }
    }

    private static void part(WhistleBook x, int one, int other, int many, int first) {
        Check.due("PART of " + one + " and " + other, x.part(one, other, 99, 0, 0, false), many);
        Check.due("first PART of " + one + " and " + other, x.part(one, other, -1, 0, 0, true), first);
    }

    // BEST BAR: the b by which BAR loses the least over all STATES together, of several the least.
    private static void bestBars() throws Exception {
        for (int b = 0; b < 32; b++) {
            WhistleBook x = new WhistleBook();
            x.sort(100, 100);
            for (int first = b; first < 32; first += 12) {
                StringBuilder text = new StringBuilder();
                for (int state = first; state < Math.min(32, first + 12); state++) {
                    text.append(state == first ? "" : ";").append("at ").append(place(state)).append(" goal 100");
                }
                Given.game(x, text.toString());
            }
            Check.due("BEST BAR", x.bar(0, 0), b);
            Check.due("it loses nothing", x.loses(2, b, 0, 0, -1), 0L);
            Check.due("one less", x.loses(2, Math.max(0, b - 1), 0, 0, -1), b == 0 ? 0L : 100L);
            if (b < 31) {
                Check.due("one more", x.loses(2, b + 1, 0, 0, -1), 9900L);
            }
        }
        WhistleBook alike = new WhistleBook();
        alike.sort(0, 0);
        Check.due("of all the least", alike.bar(0, 7), 0);
        Given.game(alike, "at 0 0 goal 100;at 7 3 goal 100");
        Check.due("both ends", alike.bar(0, 7), 0);
        alike.sort(9999, 100);
        // Waiting at 0 brings 1 more than stopping, at 31 as well; at all others 9999 less.
        Check.due("the greatest", alike.bar(1, 7), 31);
    }

    // It pays, if LETTING ON with T there is above the worth of the JUDGE at second 0 there: as bits of STATES.
    private static void pays() throws Exception {
        for (int state = 0; state < 32; state++) {
            WhistleBook x = at(state, "goal 100");
            x.sort(10000 - 1, 100);
            x.sort(10000 - 2, 100);
            int bit = 1 << state;
            Check.due("1 more pays at " + state, x.pays(0, 0, 0), bit);
            Given.game(x, "kick " + state / 4 + " 1");
            Check.due("alike does not pay at " + state, x.pays(0, 0, 0), 0);
            Check.due("1 more than another pays", x.pays(0, 0, 1), bit);
            Given.game(x, "kick " + state / 4 + " 2");
            Check.due("1 less does not", x.pays(0, 0, 0), 0);
            Check.due("NEVER is worth as much", x.pays(1, 0, 0), 0);
            Check.due("BAR above it", x.pays(2, Math.min(31, state + 1), 1), 0);
        }
        // By T of 1 it is worth 5000, by 2 it would be 7500; BEST waits for a GOAL or a STOP: 9000.
        WhistleBook half = at(0, "goal 50");
        half.sort(6000, 100);
        Check.due("LETTING ON by 2", half.worth(0, 2), 7500L);
        Check.due("by T of 1 it does not pay", half.pays(0, 0, 0), 0);
        Check.due("the greatest GAIN of BEST by T of 1", half.rest(0, 0, 1), 5000L - 9000);
        half.horizon(2);
        Check.due("by T of 2 it pays", half.pays(0, 0, 0), 1);
        WhistleBook lost = at(5, "lost 100");
        lost.sort(0, 0);
        for (int worth = 0; worth < 2; worth++) {
            lost.lost(worth);
            Check.due("less than nothing does not pay", lost.pays(0, 0, 0), 0);
            Check.due("nor by NEVER", lost.pays(1, 0, 0), 0);
        }
    }

    // LEAST CARD: the least CARD (0 to 9999) of that SORT by which none of the STATES told pays; none.
    private static void leastCards() throws Exception {
        int[] worths = {0, 1, 2, 4999, 5000, 9998, 9999, 10000, 10001, 30000};
        for (int state = 0; state < 32; state += state == 0 ? 1 : state == 1 ? 14 : 16) {
            for (int worth : worths) {
                WhistleBook x = worthOfGoal(at(state, "goal 100"), worth);
                x.sort(77, 100);
                int due = worth > 9999 ? -1 : worth;
                String told = " at " + state + " for " + worth;
                Check.due("LEAST CARD" + told, x.least(0, 0, 0, 1 << state), due);
                Check.due("LEAST CARD of all" + told, x.least(0, 0, 0, -1), due);
                Check.due("LEAST CARD of others" + told, x.least(0, 0, 0, ~(1 << state)), 0);
                Check.due("LEAST CARD of none" + told, x.least(0, 0, 0, 0), 0);
                Check.due("LEAST CARD by NEVER" + told, x.least(1, 0, 0, -1), 0);
                Check.due("its CARD stays", x.stop(0, 7, false), 77);
            }
        }
    }

    private static void leastCardsByPatience() throws Exception {
        int[][] due = {{10000, 1, 9999}, {10001, 1, -1}, {10001, 2, 9999}, {5, 4, 1}, {5, 5, 0}, {5, 6, 0}, {5, 0, 5},
            {10000, 0, -1}};
        for (int[] one : due) {
            WhistleBook x = worthOfGoal(at(31, "goal 100"), one[0]);
            x.sort(0, 100);
            x.sort(0, 100);
            x.patience(1);
            x.rate(0, 3, one[1]);
            x.rate(1, 3, 999);
            Check.due("LEAST CARD for " + one[0] + " by " + one[1], x.least(0, 0, 0, -1), one[2]);
        }
    }

    // RATES (0 to 999; 0 at first) of FOULS of a SORT at STATES.
    private static void rates() {
        WhistleBook x = new WhistleBook();
        for (int sort = 0; sort < 6; sort++) {
            x.sort(0, 0);
            for (int state = 0; state < 32; state++) {
                Check.due("RATE at first", x.rate(sort, state, 32 * sort + state), 0);
            }
        }
        Check.due("all together", x.count(9), 191 * 192 / 2);
        for (int place = 0; place < 192; place++) {
            Check.due("RATE " + place, x.often(place / 32, place % 32), place);
        }
        Check.due("up to 999", x.rate(5, 31, 999), 191);
        Check.due("down to 0", x.rate(5, 31, 0), 999);
        Check.due("0 again", x.often(5, 31), 0);
    }

    // A MATCH: of all nine together, by 9, rounded down.
    private static void matches() throws Exception {
        int[][] losses = {{0, 0}, {1, -1}, {8, -1}, {9, -1}, {10, -2}, {18, -2}, {19, -3}};
        for (int[] one : losses) {
            WhistleBook x = Given.rule(at(0, "lost 100"), "stop if minute < 80");
            x.sort(0, 100);
            x.rate(0, 0, 1);
            x.lost(one[0]);
            x.grace(0);
            Check.due("a ninth of less " + one[0], x.match(5, 0, false), (long) one[1]);
            Check.due("nine ninths of it", x.match(1, 0, false), (long) -one[0]);
        }
        int[][] goals = {{0, 0}, {1, 0}, {8, 0}, {9, 1}, {17, 1}, {18, 2}};
        for (int[] one : goals) {
            WhistleBook x = Given.rule(worthOfGoal(at(0, "goal 100"), one[0]), "stop if minute > 0");
            x.sort(0, 100);
            x.rate(0, 0, 1);
            Check.due("a ninth of " + one[0], x.match(5, 0, false), (long) one[1]);
            x.rate(0, 0, 0);
            Check.due("no RATES", x.match(5, 0, false), 0L);
        }
    }

    // By MINUTES 0, 10, 20, .. 80 (with NOW's SCORE). STOPPED: those that are stopped at second 0, NOW.
    private static void minutes() throws Exception {
        WhistleBook x = at(0, "goal 100");
        x.sort(0, 100);
        x.rate(0, 0, 9);
        int[] scores = {-9, 0, 9};
        for (int minute = 0; minute <= 90; minute++) {
            Given.goals(x, "add 100 if minute > " + minute + ";add 1 if ahead > 8;add 2 if behind > 8");
            int above = 0;
            for (int told = 0; told <= 80; told += 10) {
                above += told > minute ? 1 : 0;
            }
            int score = scores[minute % 3];
            x.now(minute, score);
            long more = score > 0 ? 1 : score < 0 ? 2 : 0;
            Check.due("MINUTES above " + minute, x.match(1, 0, false), above * 100L + 9 * more);
        }
        Given.rule(x, "stop if minute > 44 and minute < 46");
        x.rate(0, 31, 999);
        for (int minute : new int[] {0, 40, 44, 45, 46, 90}) {
            x.now(minute, 0);
            Check.due("STOPPED at " + minute, x.match(5, 0, true), minute == 45 ? 1008L : 0L);
        }
        // One that would stop a second later counts not.
        Given.rule(x, "stop if second > 0");
        Check.due("STOPPED at second 1", x.match(6, 0, true), 0L);
        Given.rule(x, "stop if second < 1");
        Check.due("STOPPED at second 0", x.match(7, 0, true), 1008L);
    }

    private static WhistleBook allRates(int card, int forgotten) {
        WhistleBook x = new WhistleBook();
        for (int sort = 0; sort < 6; sort++) {
            x.sort(card, forgotten);
            for (int state = 0; state < 32; state++) {
                x.rate(sort, state, 999);
            }
        }
        x.patience(1);
        return x;
    }

    // 191808 FOULS, the greatest kick and CARD: more than an int holds.
    private static void greatest() throws Exception {
        WhistleBook x = allRates(9999, 0);
        Given.game(x, "kick 0 9999;kick 1 9999;kick 2 9999;kick 3 9999;kick 4 9999;kick 5 9999;kick 6 9999;"
                + "kick 7 9999");
        Check.due("all RATES", x.count(9), 191808);
        Check.due("the greatest STOP", x.stop(5, 7, false), 9999 + 9999 + 31968);
        Check.due("the greatest MATCH", x.match(0, 0, false), 9967494528L);
        Check.due("all STOPPED", x.match(0, 0, true), 191808L);
        Check.due("MEAN of all", x.mean(0, 0, 0), 191808000000L);
        Check.due("MEAN of none", x.mean(0, 0, 1), 0L);
        Check.due("TWO alike", x.two(5, 7, 0, 0, 31, true), 0L);
        x.grace(10);
        worthOfGoal(x, 30000);
        Check.due("all wait for the greatest STOP", x.judge(3, 0, 0, 0, 0, 0), 51966L);

        WhistleBook lost = allRates(0, 100);
        lost.patience(0);
        for (int text = 0; text < 3; text++) {
            StringBuilder some = new StringBuilder("even 0");
            for (int state = 11 * text; state < Math.min(32, 11 * text + 11); state++) {
                some.append(";at ").append(place(state)).append(" lost 100");
            }
            Given.game(lost, some.toString());
        }
        lost.lost(9999);
        Check.due("the least MATCH", lost.match(1, 0, false), -1917888192L);
        Check.due("all LOST", lost.mean(1, 0, 2), 191808000000L);
        Check.due("NEVER loses all", lost.loses(1, 0, 0, 0, -1), 32L * 9999);
        Check.due("32 STATES", lost.count(8), 32);
    }

    // ROUNDS: how many until one changes nothing (0 to 60; that one does not count); none: RATES stay as they were.
    private static void learning() throws Exception {
        for (int rate = 0; rate <= 62; rate++) {
            WhistleBook x = at(9, "goal 100");
            x.sort(0, 0);
            boolean none = rate > 60;
            x.rate(0, 0, rate);
            Check.due("down from " + rate, x.learn(0, 0), none ? -1 : rate);
            Check.due("behind it", x.often(0, 0), none ? rate : 0);
            x.rate(0, 0, 0);
            x.rate(0, 9, rate == 0 ? 0 : 999 - rate);
            Check.due("up to 999 by " + rate, x.learn(0, 0), none ? -1 : rate);
            Check.due("behind that", x.often(0, 9), none ? 999 - rate : rate == 0 ? 0 : 999);
        }
        WhistleBook x = at(9, "goal 100");
        x.sort(0, 0);
        Check.due("only where it is above 0", x.learn(0, 0), 0);
        Check.due("0 stays where it pays", x.often(0, 9), 0);
        x.rate(0, 9, 1);
        x.rate(0, 8, 1);
        Check.due("one falls, one rises for long", x.learn(0, 0), -1);
        Check.due("both stay", x.often(0, 9) + x.often(0, 8), 2);

        WhistleBook six = new WhistleBook();
        for (int sort = 0; sort < 6; sort++) {
            six.sort(0, 0);
            six.rate(sort, 0, 3);
            six.rate(sort, 31, 61);
        }
        Check.due("61 ROUNDS of all", six.learn(0, 0), -1);
        for (int sort = 0; sort < 6; sort++) {
            Check.due("first RATE of SORT " + sort, six.often(sort, 0), 3);
            Check.due("last RATE of SORT " + sort, six.often(sort, 31), 61);
        }

        // A FOUL at 9 pays by SORT 0 and 5 alone; those next to it never do.
        WhistleBook each = worthOfGoal(at(9, "goal 100"), 10);
        for (int sort = 0; sort < 6; sort++) {
            each.sort(sort == 0 || sort == 5 ? 9 : 10, 100);
            for (int state = 4; state < 15; state++) {
                each.rate(sort, state, state == 9 ? 989 : 10);
            }
        }
        Check.due("each SORT at each STATE", each.learn(0, 0), -1);
        for (int sort = 1; sort < 5; sort++) {
            each.rate(sort, 9, 60);
        }
        Check.due("each SORT at each STATE, by 60", each.learn(0, 0), 60);
        for (int sort = 0; sort < 6; sort++) {
            Check.due("what SORT " + sort + " learns at 9", each.often(sort, 9), sort == 0 || sort == 5 ? 999 : 0);
        }
        Check.due("all others are gone", each.count(9), 2 * 999);
    }

    private static void learningUpAndDown() throws Exception {
        // A FOUL at 9 pays, as long as fewer than 10 are seen; by 10 there are 9 again, then 10, and so on.
        WhistleBook x = worthOfGoal(at(9, "goal 100"), 10);
        x.sort(0, 100);
        x.patience(1);
        x.rate(0, 9, 8);
        Check.due("up and down for ever", x.learn(0, 0), -1);
        Check.due("it stays", x.often(0, 9), 8);
        x.patience(2);
        Check.due("up and down by 2", x.learn(0, 0), -1);
        x.patience(0);
        x.rate(0, 9, 950);
        Check.due("up without PATIENCE", x.learn(0, 0), 49);
        // Of six SORTS the slowest tells how many ROUNDS.
        WhistleBook six = new WhistleBook();
        for (int sort = 0; sort < 6; sort++) {
            six.sort(0, 0);
            six.rate(sort, 31 - sort, 10 * (sort + 1));
        }
        Check.due("60 ROUNDS of the sixth", six.learn(0, 0), 60);
        Check.due("all at 0", six.count(9), 0);
        Check.due("at REST", six.learn(0, 0), 0);
        for (int state = 0; state < 32; state++) {
            six.rate(state % 6, state, 60);
        }
        Check.due("each falls once in a ROUND", six.learn(0, 0), 60);
        for (int sort = 0; sort < 6; sort++) {
            six.rate(sort, 0, 50 + sort);
        }
        Check.due("at the first STATE, too", six.learn(0, 0), 55);
    }

    // The JUDGE takes the one whose STOP is worth more (both alike: neither).
    private static void two() throws Exception {
        WhistleBook x = Given.game("kick 0 10;kick 1 11;kick 2 9");
        x.sort(5, 100);
        x.sort(4, 100);
        long[][] due = {{0, 0, 0, 0, 0, 0}, {0, 0, 0, 1, 2, -16}, {0, 0, 0, 2, 1, 15}, {0, 0, 1, 1, 0, 0},
            {1, 0, 0, 0, 2, -15}, {1, 1, 0, 0, 0, 0}, {1, 1, 0, 2, 1, 15}, {0, 3, 1, 3, 1, 5}, {1, 3, 0, 3, 2, -5}};
        for (long[] one : due) {
            int[] n = {(int) one[0], (int) one[1], (int) one[2], (int) one[3]};
            String told = " of " + n[0] + " in " + n[1] + " and " + n[2] + " in " + n[3];
            Check.due("which" + told, x.two(n[0], n[1], n[2], n[3], 31, false), one[4]);
            Check.due("worth" + told, x.two(n[0], n[1], n[2], n[3], 31, true), one[5]);
        }
    }

    // At least so many fall on the first side: ways, of all ways; reckoned by dealing out the stops one by one.
    private static void leans() {
        for (int first = 0; first <= 5; first++) {
            for (int second = 0; second <= 5; second++) {
                for (int its = 0; its <= first; its++) {
                    WhistleBook x = new WhistleBook();
                    for (int others = 0; others <= second; others++) {
                        long ways = 0;
                        long all = 0;
                        for (int dealt = 0; dealt < 1 << (first + second); dealt++) {
                            if (Integer.bitCount(dealt) == its + others) {
                                all++;
                                ways += Integer.bitCount(dealt & (1 << first) - 1) >= its ? 1 : 0;
                            }
                        }
                        String told = " of " + first + ", " + its + ", " + second + ", " + others;
                        Check.due("ways" + told, x.leans(first, its, second, others, false), ways);
                        Check.due("all ways" + told, x.leans(first, its, second, others, true), all);
                    }
                }
            }
        }
        WhistleBook x = new WhistleBook();
        Check.due("none of 60", x.leans(30, 0, 30, 0, true), 1L);
        Check.due("all of 60", x.leans(30, 30, 30, 30, true), 1L);
        Check.due("all of 60 fall", x.leans(30, 30, 30, 30, false), 1L);
        Check.due("30 of 60", x.leans(30, 0, 30, 30, true), 118264581564861424L);
        Check.due("none at least", x.leans(30, 0, 30, 30, false), 118264581564861424L);
        Check.due("31 of 60", x.leans(30, 30, 30, 1, true), 114449595062769120L);
        Check.due("30 of 31", x.leans(30, 30, 30, 1, false), 30L);
        Check.due("1 of 1", x.leans(1, 1, 0, 0, false), 1L);
        Check.due("1 of 2", x.leans(1, 1, 1, 0, true), 2L);
    }

    // Below the chance of the MOVE to STATE 0 that; .. then GOAL, LOST, else it stays. First DRAWS: 0, 1, 38, 98, 99.
    private static void draws() throws Exception {
        int[][] seeds = {{0, 0}, {70, 1}, {1, 38}, {15, 98}, {194, 99}};
        for (int chance = 0; chance <= 100; chance++) {
            WhistleBook goal = at(0, "goal " + chance);
            WhistleBook lost = at(0, "lost " + chance);
            WhistleBook both = at(0, "goal " + chance + ";at 0 0 lost " + (100 - chance));
            WhistleBook move = at(0, "to 0 1 " + chance + ";at 0 0 lost " + (100 - chance) + ";at 0 1 goal 100");
            move.horizon(2);
            goal.sort(0, 0);
            lost.sort(0, 0);
            both.sort(0, 0);
            move.sort(0, 0);
            for (int[] one : seeds) {
                boolean below = one[1] < chance;
                String told = one[1] + " of " + chance;
                Check.due("GOAL by " + told, goal.played(1, 0, 0, 0, 0, one[0]), below ? 101 : 301);
                Check.due("LOST by " + told, lost.played(1, 0, 0, 0, 0, one[0]), below ? 201 : 301);
                Check.due("one of both by " + told, both.played(1, 0, 0, 0, 0, one[0]), below ? 101 : 201);
                Check.due("MOVE by " + told, move.played(1, 0, 0, 0, 0, one[0]), below ? 102 : 201);
            }
        }
    }

    // The MOVES in the order of their STATES, not as they were told: 38 falls on the 39th hundredth.
    private static void drawsInTurn() throws Exception {
        int[][] due = {{39, 0, 0, 0, 102}, {38, 1, 0, 0, 202}, {38, 0, 1, 0, 101}, {38, 0, 0, 1, 201},
            {38, 0, 0, 0, 302}, {0, 39, 0, 0, 202}, {0, 38, 1, 0, 101}, {0, 38, 0, 1, 201}, {0, 0, 39, 0, 101},
            {0, 0, 38, 1, 201}, {20, 18, 0, 62, 201}, {20, 19, 61, 0, 202}, {13, 13, 13, 61, 101},
            {13, 13, 12, 62, 201}, {10, 10, 10, 8, 302}};
        for (int[] one : due) {
            WhistleBook x = Given.game("at 4 0 lost " + one[3] + ";at 4 0 goal " + one[2] + ";at 4 0 to 7 3 " + one[1]
                    + ";at 4 0 to 0 0 " + one[0] + ";at 0 0 goal 100;at 7 3 lost 100");
            x.sort(0, 0);
            x.horizon(2);
            Check.due("38 by " + one[0] + ", " + one[1] + ", " + one[2] + ", " + one[3], x.played(1, 0, 0, 0, 16, 1),
                    one[4]);
        }
    }

    // SEED is 1103515245 times SEED and 12345, as an int that goes round; bits 16 to 30, modulo 100.
    private static void seeds() throws Exception {
        WhistleBook x = Given.game("at 0 0 goal 3;at 0 0 lost 4;even 0");
        x.sort(0, 0);
        for (int seed : new int[] {0, 1, -1, Given.MOST, Given.LEAST, Given.MOST - 1, Given.LEAST + 1, 12345, -12345,
                65536}) {
            for (int t : new int[] {1, 2, 59, 60}) {
                x.horizon(t);
                long now = seed & 0xffffffffL;
                int due = 300 + t;
                for (int second = 1; second <= t && due / 100 == 3; second++) {
                    now = (now * 1103515245L + 12345L) % 4294967296L;
                    long draw = now / 65536 % 32768 % 100;
                    due = draw < 3 ? 100 + second : draw < 7 ? 200 + second : due;
                }
                Check.due("PLAYED by " + seed + " to " + t, x.played(1, 0, 0, 0, 0, seed), due);
            }
        }
    }

    // Each second first the JUDGE, until it lets on for good; then, if T seconds are over, nothing came.
    private static void playedToTheEnd() throws Exception {
        for (int t = 1; t <= 60; t++) {
            WhistleBook x = new WhistleBook();
            x.sort(0, 0);
            x.horizon(t);
            x.grace(10);
            Check.due("nothing in " + t, x.played(1, 0, 0, 0, 0, t), 300 + t);
            Check.due("stopped at once", x.played(0, 0, 0, 0, 0, t), 0);
            Check.due("LAST by " + t, x.played(4, 0, 0, 0, 0, t), t < 10 ? 300 + t : 10);
            Check.due("LAST ENDS by " + t, x.ends(4, 0, 0, 0, 0, 0), t < 10 ? 0 : 1000000);
            Check.due("BAR by " + t, x.played(2, 0, 0, 0, 0, t), 300 + t);
            Given.rule(x, "stop if second > 4;wait if second < 4;play if 1 > 0");
            Check.due("once it lets on, it does not stop by " + t, x.played(5, 0, 0, 0, 0, t), 300 + t);
            Given.rule(x, "stop if second > 3");
            Check.due("stops in second 4 by " + t, x.played(6, 0, 0, 0, 0, t), t < 4 ? 300 + t : 4);
            Check.due("ENDS so by " + t, x.ends(6, 0, 0, 0, 0, 0), t < 4 ? 0 : 1000000);
        }
    }

    // LOST: stopped, if it waited. The ball is LOST for sure in second n and 1.
    private static void lostWhileItWaits() throws Exception {
        for (int n = 0; n <= 10; n++) {
            StringBuilder text = new StringBuilder("at " + place(n) + " lost 100");
            for (int state = 0; state < n; state++) {
                text.append(";at ").append(place(state)).append(" to ").append(place(state + 1)).append(" 100");
            }
            WhistleBook x = Given.game(text.toString());
            x.sort(0, 0);
            for (int grace = 0; grace <= 10; grace++) {
                x.grace(grace);
                x.horizon(n + 1);
                boolean waited = n < grace;
                String told = " in second " + (n + 1) + " by GRACE " + grace;
                Check.due("LOST" + told, x.played(2, 0, 0, 0, 0, grace), waited ? n + 1 : 201 + n);
                Check.due("LOST before LAST" + told, x.played(4, 0, 0, 0, 0, grace), waited ? n + 1 : grace);
                Check.due("stopped" + told, x.ends(2, 0, 0, 0, 0, 0), waited ? 1000000 : 0);
                Check.due("GOAL" + told, x.ends(2, 0, 0, 0, 0, 1), 0);
                Check.due("ENDS LOST" + told, x.ends(2, 0, 0, 0, 0, 2), waited ? 0 : 1000000);
                Check.due("NEVER LOST" + told, x.ends(1, 0, 0, 0, 0, 2), 1000000);
                if (n > 0) {
                    x.horizon(n);
                    Check.due("T is over ahead of it", x.played(2, 0, 0, 0, 0, grace), 300 + n);
                    Check.due("not stopped ahead of it", x.ends(2, 0, 0, 0, 0, 0), 0);
                    Check.due("not LOST ahead of it", x.ends(2, 0, 0, 0, 0, 2), 0);
                }
            }
        }
    }

    // ENDS, in millionths: 1000000 if that is so at once, 0 if another one is; by chances rounded down.
    private static void endsRoundedDown() throws Exception {
        WhistleBook x = Given.game("at 0 0 to 0 1 1;at 0 1 to 0 2 1;at 0 2 to 0 3 1;at 0 3 goal 1");
        x.sort(0, 0);
        int[] due = {10000, 100, 1, 0};
        for (int t = 1; t <= 4; t++) {
            x.horizon(t);
            Check.due("a GOAL by " + t, x.ends(1, 0, 0, 0, 4 - t, 1), due[t - 1]);
            Check.due("none in a second less", x.ends(1, 0, 0, 0, Math.max(0, 3 - t), 1), 0);
            x.rate(0, 4 - t, 999);
            Check.due("MEAN by " + t, x.mean(1, 0, 1), 999L * due[t - 1]);
            x.rate(0, 4 - t, 0);
            for (int what = 0; what < 3; what++) {
                Check.due("ALWAYS " + what, x.ends(0, 0, 0, 0, 3, what), what == 0 ? 1000000 : 0);
            }
            Check.due("no RATES", x.mean(1, 0, 1), 0L);
        }
        WhistleBook sure = at(3, "goal 100");
        sure.sort(0, 0);
        for (int what = 0; what < 3; what++) {
            Check.due("a sure GOAL " + what, sure.ends(1, 0, 0, 0, 3, what), what == 1 ? 1000000 : 0);
            Check.due("a sure GOAL while one waits " + what, sure.ends(2, 0, 0, 0, 3, what), what == 1 ? 1000000 : 0);
            Check.due("nothing comes " + what, sure.ends(1, 0, 0, 0, 4, what), 0);
        }
    }

    /** A GOAL comes at once where the ZONE is z at least and FREE f at least; else nothing. */
    private static WhistleBook goodFrom(int z, int f) throws Exception {
        WhistleBook x = new WhistleBook();
        StringBuilder text = new StringBuilder();
        int lines = 0;
        for (int state = 4 * z; state < 32; state++) {
            if (state % 4 >= f) {
                text.append(lines == 0 ? "" : ";").append("at ").append(place(state)).append(" goal 100");
                lines++;
            }
            if (lines == 12 || state == 31) {
                Given.game(x, text.toString());
                text.setLength(0);
                lines = 0;
            }
        }
        x.sort(100, 100);
        return x;
    }

    // PLAIN: stop where the ZONE is below z (0 to 8) or FREE below f (0 to 4), else wait: 10 z and f, of several the
    // least.
    private static void plain() throws Exception {
        for (int z = 0; z < 8; z++) {
            for (int f = 0; f < 4; f++) {
                WhistleBook x = goodFrom(z, f);
                Check.due("PLAIN from " + z + ", " + f, x.plain(0, 0), 10 * z + f);
                x.grace(0);
                Check.due("PLAIN by GRACE 0", x.plain(0, 0), 10 * z + f);
            }
        }
        for (int state = 0; state < 32; state += 31) {
            // Waiting brings 100 as stopping does, but at one STATE nothing.
            WhistleBook x = worthOfGoal(goodFrom(0, 0), 100);
            Given.game(x, "at " + place(state) + " goal 0");
            Check.due("one that stops at " + state, x.plain(0, 0), state == 0 ? 1 : 4);
        }
        WhistleBook none = new WhistleBook();
        none.sort(100, 100);
        none.sort(100, 0);
        none.sort(0, 0);
        Check.due("one that always stops: the least f", none.plain(0, 0), 4);
        Check.due("all alike by a CARD that is not forgotten", none.plain(1, 0), 0);
        Check.due("all alike", none.plain(2, 0), 0);
    }

    // RIGHT: STATES at which a JUDGE loses nothing at second 0, as bits.
    private static void right() throws Exception {
        for (int state = 0; state < 32; state++) {
            for (int worth = 99; worth <= 101; worth++) {
                WhistleBook x = worthOfGoal(at(state, "goal 100"), worth);
                x.sort(100, 100);
                String told = " at " + state + " for " + worth;
                Check.due("ALWAYS is RIGHT" + told, x.right(0, 0, 0, 0), worth > 100 ? ~(1 << state) : -1);
                Check.due("NEVER is RIGHT" + told, x.right(1, 0, 0, 0), worth < 100 ? 0 : 1 << state);
                Check.due("ALWAYS loses" + told, x.loses(0, 0, 0, 0, state), (long) Math.max(0, worth - 100));
                Check.due("NEVER loses" + told, x.loses(1, 0, 0, 0, state), (long) Math.max(0, 100 - worth));
                Check.due("NEVER loses over all" + told, x.loses(1, 0, 0, 0, -1), 3100L + Math.max(0, 100 - worth));
                Check.due("BEST is RIGHT" + told, x.right(3, 0, 0, 0), -1);
            }
        }
    }

    // At second 0: that it is right a second later does not help.
    private static void rightAtOnce() throws Exception {
        WhistleBook x = Given.rule(Given.game("at 0 0 goal 100;at 7 3 goal 100"), "stop if second < 1");
        x.sort(1, 100);
        Check.due("right at second 1", x.judge(5, 0, 0, 0, 0, 1), x.judge(3, 0, 0, 0, 0, 1));
        Check.due("RIGHT but where a GOAL comes", x.right(5, 0, 0, 0), ~(1 | 1 << 31));
        Check.due("loses there", x.loses(5, 0, 0, 0, -1), 2L * 9999);
        Check.due("loses at 31", x.loses(5, 0, 0, 0, 31), 9999L);
        Check.due("loses at 30", x.loses(5, 0, 0, 0, 30), 0L);
    }

    // SAFE: of several the least number; SHREWD: of several the least; they REST, if both are alike.
    private static void rest() throws Exception {
        WhistleBook none = new WhistleBook();
        none.sort(0, 0);
        int[] alike = {0, 0, 0, 0, 1};
        for (int what = 0; what < 5; what++) {
            Check.due("all alike, what " + what, none.rest(31, 0, what), (long) alike[what]);
        }
        for (int state = 0; state < 32; state++) {
            // LETTING ON is worth 50 there; stopping 100 everywhere: the greatest GAIN is -50, by all that stop there.
            WhistleBook x = worthOfGoal(at(state, "goal 100"), 50);
            x.sort(100, 100);
            int[] due = {0, -50, state, -50, 1};
            for (int what = 0; what < 5; what++) {
                Check.due("REST " + what + " at " + state, x.rest(0, 0, what), (long) due[what]);
            }
            // Worth 101: who stops there gives 1 away, NEVER nothing; elsewhere that is worth 0 as well.
            worthOfGoal(x, 101);
            Check.due("SAFE for 101 at " + state, x.rest(state, 0, 0), 1L);
            Check.due("its worst", x.rest(state, 0, 1), 0L);
            Check.due("SHREWD for 101", x.rest(state, 0, 2), (long) state);
            Check.due("its best", x.rest(state, 0, 3), 0L);
            Check.due("they REST", x.rest(state, 0, 4), 1L);
        }
        WhistleBook ruled = Given.rule(Given.game("kick 7 500"), "stop if kick > 0;play if zone > 8");
        ruled.sort(0, 0);
        Check.due("SAFE with a RULE", ruled.rest(0, 0, 0), 0L);
        Check.due("SHREWD is the first outside", ruled.rest(0, 0, 2), 0L);
        // The worst of ALWAYS is 4900, at one STATE; of all others the 1 of AFTERWARDS less than nothing.
        for (int rules = 0; rules <= 4; rules++) {
            WhistleBook four = worthOfGoal(at(31, "goal 100"), 5000);
            four.sort(100, 99);
            for (int n = 0; n < rules; n++) {
                Given.rule(four, n == 2 ? "stop if zone < 7 or free < 3" : "play if zone < 8");
            }
            Check.due("SAFE with RULES " + rules, four.rest(0, 0, 0), 1L);
            Check.due("its worst with RULES " + rules, four.rest(0, 0, 1), -1L);
            Check.due("SHREWD with RULES " + rules, four.rest(0, 0, 2), 31L);
            Check.due("its best with RULES " + rules, four.rest(0, 0, 3), -1L);
        }
    }

    // So many FOULS (1 to 200): of each first a DRAW modulo all RATES: that in whose RATE it falls. DRAWS of 1:
    // 16838, ..
    private static void seasons() throws Exception {
        int[][] due = {{2, 2, 1}, {3, 1, 0}, {1, 1, 0}, {1, 2, 1}, {2, 1, 1}, {0, 5, 1}, {5, 0, 0},
            {838, 162, 1}, {839, 161, 0}, {999, 999, 0}};
        for (int[] one : due) {
            WhistleBook x = Given.rule(Given.game("even 0"), "stop if zone > 6");
            x.sort(0, 0);
            x.rate(0, 0, one[0]);
            x.rate(0, 31, one[1]);
            int all = one[0] + one[1];
            int told = 16838 % all < one[0] ? 0 : 1;
            Check.due("reckoned by hand, too: " + one[0] + ", " + one[1], told, one[2]);
            Check.due("stopped in ZONE 7", x.season(5, 0, 1, 1, 0), told);
            Check.due("nothing in ZONE 0", x.season(5, 0, 1, 1, 3), 1 - told);
            Check.due("seconds", x.season(5, 0, 1, 1, 4), told == 1 ? 0 : 20);
        }
        WhistleBook x = at(31, "goal 100");
        x.sort(0, 0);
        x.rate(0, 31, 1);
        for (int many : new int[] {1, 2, 199, 200}) {
            int[] told = {0, many, 0, 0, many};
            for (int what = 0; what < 5; what++) {
                Check.due(many + " GOALS " + what, x.season(1, 0, many, Given.LEAST, what), told[what]);
                Check.due(many + " stopped " + what, x.season(0, 0, many, Given.MOST, what), what == 0 ? many : 0);
            }
        }
        // Its ZONE: a RULE sees the kick there.
        Given.game(x, "kick 7 1");
        Given.rule(x, "stop if kick > 0;play if kick < 1");
        Check.due("stopped by the kick", x.season(5, 0, 200, 3, 0), 200);
        x.rate(0, 31, 0);
        x.rate(0, 27, 1);
        Check.due("not by another ZONE's kick", x.season(5, 0, 200, 3, 0), 0);
        Given.game(x, "kick 6 1;kick 7 0");
        Check.due("but by its own", x.season(5, 0, 200, 3, 0), 200);
        x.rate(0, 27, 0);
        x.rate(0, 31, 1);
        x.horizon(60);
        Given.game(x, "at 7 3 goal 0");
        Check.due("12000 seconds", x.season(1, 0, 200, 5, 4), 12000);
        Check.due("200 times nothing", x.season(1, 0, 200, 5, 3), 200);
    }

    // More RATES than a DRAW can tell: SORT 0 has all below 31968. By these SEEDS the first DRAW is 31967, 31968,
    // 32767.
    private static void seasonsOfAll() throws Exception {
        WhistleBook x = new WhistleBook();
        for (int sort = 0; sort < 6; sort++) {
            x.sort(0, sort == 0 ? 100 : 0);
            for (int state = 0; state < 32; state++) {
                x.rate(sort, state, 999);
            }
        }
        Given.rule(x, "stop if late and zone > 6 and free > 2");
        Given.rule(x, "stop if not late and zone < 1 and free < 1");
        Given.rule(x, "stop if late and zone < 1 and free < 1");
        int[][] due = {{14568, 1, 0, 0}, {16263, 0, 1, 0}, {24884, 0, 1, 0}, {0, 0, 0, 1}};
        for (int[] one : due) {
            for (int rule = 0; rule < 3; rule++) {
                Check.due("RULE " + rule + " by " + one[0], x.season(5 + rule, 0, 1, one[0], 0), one[1 + rule]);
            }
        }
    }

    // THE IMAGE (one) may be kept, and gone back to (but for the TAPE, fault() and THE IMAGE itself).
    private static void image() throws Exception {
        WhistleBook x = new WhistleBook();
        String before = Seen.of(WhistleBook::new).replaceAll("back.*", "");
        Check.due("none was kept", x.back(), false);
        Check.due("nothing happens", Seen.of(() -> {
            WhistleBook none = new WhistleBook();
            none.back();
            return none;
        }).replaceAll("back.*", ""), before);
        String told = Seen.of(EdgeTest::told).replaceAll("back.*", "");
        Check.due("a new one comes back", Seen.of(() -> {
            WhistleBook kept = new WhistleBook();
            kept.image();
            tell(kept);
            Check.due("back", kept.back(), true);
            return kept;
        }).replaceAll("back.*", ""), before);
        Check.due("all comes back behind a 2nd time", Seen.of(() -> {
            WhistleBook kept = told();
            kept.image();
            kept.grace(1);
            kept.back();
            tellOther(kept);
            Check.due("back again", kept.back(), true);
            return kept;
        }).replaceAll("back.*", ""), told);
        Check.due("the TAPE does not go back", Seen.bytesOn(tapeBack(3, 17)), 17);
        Check.due("nor one that was full", Seen.bytesOn(tapeBack(400, 0)), 0);
        Check.due("nor one that was empty", Seen.bytesOn(tapeBack(0, 400)), 400);
    }

    // Places that were free then are free again.
    private static void imageWithRoom() throws Exception {
        WhistleBook x = new WhistleBook();
        for (int n = 0; n < 11; n++) {
            Given.game(x, "kick 0 " + n);
        }
        for (int n = 0; n < 5; n++) {
            x.sort(n, 0);
        }
        for (int n = 0; n < 3; n++) {
            Given.rule(x, "stop if late");
        }
        x.image();
        for (int round = 1; round <= 3; round++) {
            Check.due("the 12th GAME text", Given.fed(x, "kick 0 " + (100 + round)).game(), 12);
            Check.due("a 13th", Check.answer(Given.fed(x, "kick 0 0")::game), Given.ROOM);
            Check.due("the 6th SORT", x.sort(round, 0), 5);
            int card = round;
            Check.due("a 7th", Check.answer(() -> x.sort(card, 0)), Given.ROOM);
            Check.due("the 4th RULE", Given.fed(x, round == 2 ? "" : "stop if 1 > 0").rule(), 8);
            Check.due("a 5th", Check.answer(Given.fed(x, "")::rule), Given.ROOM);
            Check.due("no RATE of the 6th SORT", x.rate(5, 31, 999), 0);
            Check.due("its STOP", x.stop(5, 0, false), 100 + 2 * round);
            Check.due("what the 4th RULE does", x.does(8, 0, 5, 0, 0, 0), round == 2 ? 2 : 0);
            Check.due("back", x.back(), true);
            Check.due("11 texts", x.count(0), 11);
            Check.due("3 RULES", x.count(2), 3);
            Check.due("5 SORTS", x.count(3), 5);
            Check.due("no RATES", x.count(9), 0);
            Check.due("the kick of the 11th", x.kick(0), 10);
            Check.due("no 4th RULE", Check.answer(() -> x.match(8, 0, true)), Given.PLACE);
            Check.due("no 6th SORT", Check.answer(() -> x.often(5, 31)), Given.PLACE);
        }
    }

    private static WhistleBook tapeBack(int then, int now) throws Exception {
        WhistleBook x = Given.fed(new WhistleBook(), Given.times(then, " "));
        x.image();
        x.end(0);
        Given.fed(x, Given.times(now, " "));
        x.back();
        return x;
    }

    private static WhistleBook told() throws Exception {
        WhistleBook x = new WhistleBook();
        tell(x);
        return x;
    }

    private static void tell(WhistleBook x) throws Exception {
        Given.game(x, "at 0 0 to 0 1 50;at 0 1 goal 40;at 7 3 lost 30;kick 0 100;kick 7 9999;even 7");
        Given.goals(x, "add 100;add 7 * minute");
        Given.rule(x, "stop if zone > 0");
        x.sort(10, 100);
        x.sort(20, 0);
        x.rate(0, 0, 5);
        x.rate(1, 31, 6);
        x.now(5, 5);
        x.lost(50);
        x.horizon(5);
        x.patience(5);
    }

    private static void tellOther(WhistleBook x) throws Exception {
        Given.game(x, "at 0 0 to 0 1 5;at 0 1 goal 4;at 7 3 lost 3;kick 0 10;kick 7 0;even 10");
        Given.goals(x, "");
        Given.rule(x, "play if zone > 0");
        x.sort(30, 30);
        x.rate(2, 2, 999);
        x.rate(0, 0, 0);
        x.now(90, -9);
        x.lost(0);
        x.horizon(60);
        x.patience(0);
    }

    // NONE for another what.
    private static void counts() throws Exception {
        WhistleBook x = told();
        int[] due = {1, 2, 1, 2, 7, 5, 5, 5, 3, 11};
        for (int what = 0; what < 10; what++) {
            Check.due("count " + what, x.count(what), due[what]);
        }
        for (int what : new int[] {Given.LEAST, -2, -1, 10, 11, Given.MOST}) {
            Check.due("count " + what, x.count(what), -1);
        }
    }

    // An object is used for at most 512 calls.
    private static void lastCall() throws Exception {
        WhistleBook x = new WhistleBook();
        for (int n = 1; n < 512; n++) {
            x.feed(0x6576656e, 0x20202020, 0x20202020, 0x20202020, 0x20200a20);
        }
        Check.due("the 512th call", Check.answer(x::game), Given.NUMBER);
        WhistleBook read = new WhistleBook();
        for (int n = 1; n < 512; n++) {
            read.goals();
        }
        Check.due("the 512th text", read.goals(), 0);
    }
}
