import java.util.Arrays;
import java.util.List;

/** The TAPE and the texts: empty and full, as much as they may hold and one thing more, and each first wrong byte. */
public final class TextEdgeTest {
    private static final int GAME = 0;
    private static final int GOALS = 1;
    private static final int RULES = 2;

    private static final String WORDS = "at to goal lost kick even add less if stop play wait or and not late zone free"
            + " second minute ahead behind x atto ands no lates score";
    private static final String SIGNS = "; ( ) < > + * - = , . \t \n \0 \u00ff \u00a0 ` { / : ! A Z @ [ # <= ((";
    private static final String NUMBERS =
            "0 1 3 4 7 8 10 11 100 101 999 9999 0000 0003 0010 0100 00000 00003 10000 99999999999";
    private static final String OF_GOALS = "minute ahead behind";
    private static final String OF_RULES = "zone free second kick minute ahead behind";

    // Of each thing of a text: it, what else ends a text there, and behind what more must come; #N a number to N.
    private static final String[] GAME_MOVE = {"at||at kick even", "7||#7", "3||#3", "to||to goal lost",
        "0||#7", "0||#3", "100|#100|", ";||;", "kick||at kick even", "7||#7", "9999|#9999|", ";||;",
        "even||at kick even", "10|#10|", "||;"};
    private static final String[] GAME_GOAL = {"at||at kick even", "0||#7", "0||#3", "goal||to goal lost", "100|#100|",
        ";||;", "at||at kick even", "7||#7", "3||#3", "lost||to goal lost", "0|#100|", "||;"};
    private static final String[] GOALS_ALL = {"add||add less", "9999|#9999|", "*||* if ;", "minute|" + OF_GOALS + "|",
        "if||if ;", "1||not ( #9999 " + OF_GOALS, ">||+ < >", "ahead|#9999 " + OF_GOALS + "|", "or||+ and or ;",
        "not||not ( #9999 " + OF_GOALS, "behind||not ( #9999 " + OF_GOALS, "+||+ < >", "2||#9999 " + OF_GOALS,
        "<||+ < >", "3|#9999 " + OF_GOALS + "|", ";||+ and or ;", "less||add less", "5|#9999|", "||* if ;"};
    private static final String[] RULE_ALL = {"stop||stop play wait", "if||if", "1|late|not ( #9999 " + OF_RULES,
        "+||+ < >", "zone||#9999 " + OF_RULES, ">||+ < >", "free|#9999 " + OF_RULES + "|", "and||+ and or ;",
        "not|late|not ( #9999 " + OF_RULES, "(|late|not ( #9999 " + OF_RULES, "late||late not ( #9999 " + OF_RULES,
        "or|)|and or", "2||late not ( #9999 " + OF_RULES, "<||+ < >", "3||#9999 " + OF_RULES, ")|)|+ and or",
        ";||and or ;", "wait||stop play wait", "if||if", "late|late|not ( #9999 " + OF_RULES, "||and or ;"};

    private static final String[] LINE = {"even 1", "add 1", "wait if late"};

    private TextEdgeTest() {
    }

    public static void main(String[] args) throws Exception {
        tapeOfBytes();
        tapeIsCut();
        tapeIsUsedUp();
        bytesInTheirOrder();
        noLine();
        fullTape();
        everyThingEverywhere();
        everyByte();
        digits();
        lines();
        depths();
        notSoDeep();
        chancesTogether();
        gameTexts();
        ruleTexts();
        goalsInPlace();
        faults();
        refusedTexts();
        Check.end("TextEdgeTest");
    }

    private static Object read(WhistleBook x, int language) {
        return Check.answer(language == GAME ? x::game : language == GOALS ? x::goals : x::rule);
    }

    private static String kind(int language) {
        return language == GAME ? "game" : language == GOALS ? "goals" : "rule";
    }

    private static void fault(int language, String text, int due) throws Exception {
        WhistleBook x = Given.fed(new WhistleBook(), text);
        Object got = read(x, language);
        boolean wrong = due != WhistleBook.NONE;
        Check.due(kind(language) + "() of '" + text + "' answered " + got + ": throws",
                got instanceof String ? got : "", wrong ? Given.NUMBER : "");
        Check.due("fault of '" + text + "' as " + kind(language), x.fault(), due);
        Check.due("bytes behind '" + text + "'", Seen.bytesOn(x), 0);
    }

    // feed: how many it has; NONE, and none come, if it would have more than 400.
    private static void tapeOfBytes() throws Exception {
        for (int there = 0; there <= 400; there++) {
            WhistleBook x = Given.fed(new WhistleBook(), Given.times(there, " "));
            boolean taken = there <= 380;
            Check.due("feed behind " + there, x.feed(1, 2, 3, 4, 5), taken ? there + 20 : -1);
            Check.due("the TAPE behind " + there, x.end(taken ? there + 20 : there), true);
            Check.due("no byte more behind " + there, x.end(taken ? there + 21 : there + 1), false);
            Check.due("its first byte behind " + there, taken ? read(x, GAME) : "", taken ? Given.NUMBER : "");
            Check.due("the blanks behind " + there, taken ? x.fault() : (int) (long) (Long) read(x, GAME), taken
                    ? there : 1);
        }
    }

    // end: false, and nothing happens, if it has fewer, or n is below 0.
    private static void tapeIsCut() throws Exception {
        for (int there : new int[] {0, 1, 19, 20, 21, 399, 400}) {
            for (int n : new int[] {Given.LEAST, -400, -1, there + 1, there + 20, 401, Given.MOST}) {
                WhistleBook x = Given.fed(new WhistleBook(), Given.times(there, " "));
                Check.due("end(" + n + ") of " + there, x.end(n), false);
                Check.due("behind end(" + n + ") of " + there, Seen.bytesOn(x), there);
            }
            for (int n : new int[] {0, 1, there - 1, there}) {
                WhistleBook x = Given.fed(new WhistleBook(), Given.times(there, " "));
                boolean right = n >= 0 && n <= there;
                Check.due("end(" + n + ") of " + there, x.end(n), right);
                Check.due("cut by end(" + n + ") of " + there, Seen.bytesOn(x), right ? n : there);
            }
        }
        WhistleBook cut = Given.fed(new WhistleBook(), "even 10");
        Check.due("cut to what is a text, too", cut.end(6), true);
        cut.game();
        Check.due("its GRACE", cut.count(4), 1);
        Check.due("what was cut does not come again", Given.fed(cut, "").end(1), false);
    }

    // Uses the TAPE up: whether the text is right, wrong, or one too many.
    private static void tapeIsUsedUp() throws Exception {
        for (int language = GAME; language <= RULES; language++) {
            WhistleBook x = new WhistleBook();
            for (int n = 0; n < 14; n++) {
                Given.fed(x, LINE[language] + (n % 2 == 0 ? "" : "   "));
                read(x, language);
                Check.due(kind(language) + "() " + n + " uses it up", x.end(1), false);
                Check.due(kind(language) + "() " + n + " leaves 0", x.end(0), true);
            }
            Given.fed(x, "nonsense");
            Check.due("wrong", read(x, language), Given.NUMBER);
            Check.due("wrong " + kind(language) + "() uses it up", x.end(1), false);
            Check.due("nothing of it is left", x.feed(0x20202020, 0x20202020, 0x20202020, 0x20202020, 0x20202020), 20);
        }
    }

    // Of each number the highest first.
    private static void bytesInTheirOrder() {
        WhistleBook x = new WhistleBook();
        x.feed(0x6b69636b, 0x20302031, 0x3b6b6963, 0x6b203120, 0x323b6b69);
        x.feed(0x636b2032, 0x2033203b, 0x6b69636b, 0x20332034, 0x20202020);
        Check.due("kick 0 1;kick 1 2;kick 2 3 ;kick 3 4", read(x, GAME), 1L);
        for (int zone = 0; zone < 4; zone++) {
            Check.due("kick " + zone, x.kick(zone), zone + 1);
        }
        for (int place = 0; place < 20; place++) {
            int[] five = {0x20202020, 0x20202020, 0x20202020, 0x20202020, 0x20202020};
            five[place / 4] ^= 0xdf << (24 - 8 * (place % 4));
            x.feed(five[0], five[1], five[2], five[3], five[4]);
            Check.due("byte 255 at " + place, read(x, GAME), Given.NUMBER);
            Check.due("its place " + place, x.fault(), place);
        }
    }

    // A text that is empty, or blanks alone, has no LINE.
    private static void noLine() throws Exception {
        for (int blanks : new int[] {0, 1, 2, 399, 400}) {
            String text = Given.times(blanks, " ");
            WhistleBook x = Given.fed(new WhistleBook(), text);
            Check.due("a game of " + blanks + " blanks", read(x, GAME), 1L);
            Check.due("goals of " + blanks + " blanks", read(Given.fed(x, text), GOALS), 0L);
            Check.due("a rule of " + blanks + " blanks", read(Given.fed(x, text), RULES), 5L);
            Check.due("no fault of " + blanks + " blanks", x.fault(), -1);
            Check.due("GOAL WORTH of " + blanks + " blanks", x.goal(), 0);
            x.sort(0, 0);
            Check.due("a RULE of blanks waits", x.does(5, 0, 0, 0, 0, 0), 2);
            for (int language = GAME; language <= RULES; language++) {
                fault(language, text.substring(0, blanks / 2) + ";", blanks / 2);
            }
        }
    }

    private static void fullTape() throws Exception {
        fault(GAME, "even 1" + Given.times(394, " "), -1);
        fault(GAME, Given.times(394, " ") + "even 1", -1);
        fault(GAME, Given.times(393, " ") + "even 11", 398);
        fault(GAME, Given.times(394, " ") + "even ;", 399);
        fault(GAME, Given.times(395, " ") + "even ", 400);
        fault(GAME, "even 1" + Given.times(393, " ") + ";", 400);
        fault(GAME, "even 1" + Given.times(393, " ") + "x", 399);
        fault(GAME, Given.times(400, "a"), 0);
        fault(GAME, "at " + Given.times(397, "1"), 3);
        fault(GAME, Given.times(400, ";"), 0);
        fault(RULES, "stop if " + Given.times(392, "("), 14);
        fault(GAME, "at 7 3 to 7 2 51;at 7 3 goal 50" + Given.times(369, " "), 400);

        // 194 ones together, in 400 bytes.
        String ones = "stop if " + Given.times(193, "1+") + "1";
        WhistleBook x = Given.rule(Given.rule(new WhistleBook(), ones + " >193"), ones + "> 194");
        x.sort(0, 0);
        Check.due("193 is less than a long SUM", x.does(5, 0, 0, 0, 0, 0), 0);
        Check.due("194 is not", x.does(6, 0, 0, 0, 0, 0), 2);
        String nines = "wait if 9999" + Given.times(76, "+9999");
        Given.rule(x, nines + "<0");
        Check.due("a SUM is no small number", x.does(7, 0, 0, 0, 0, 0), 2);
        String dozen = Given.lines(11, "stop if free > 2 and second > 3") + ";stop if free > 2";
        Given.rule(x, dozen);
        Check.due("a long text's last LINE", x.does(8, 0, 0, 0, 3, 0), 0);
        Check.due("a long text's last LINE does not hold", x.does(8, 0, 0, 0, 2, 0), 2);
    }

    private static void everyThingEverywhere() throws Exception {
        everyThing(GAME, GAME_MOVE);
        everyThing(GAME, GAME_GOAL);
        everyThing(GOALS, GOALS_ALL);
        everyThing(RULES, RULE_ALL);
    }

    private static void everyThing(int language, String[] steps) throws Exception {
        String[] things = (WORDS + " " + SIGNS + " " + NUMBERS).split(" ");
        String ahead = "";
        for (String step : steps) {
            String[] parts = step.split("\\|", -1);
            for (String thing : things) {
                boolean ends = mayStand(thing, parts[1]);
                boolean goesOn = mayStand(thing, parts[2]);
                String text = ahead + thing;
                int begin = ahead.length();
                fault(language, text, ends ? -1 : goesOn ? text.length() : wrongIn(thing, begin, parts));
                fault(language, "  " + text + " ", ends ? -1 : goesOn ? text.length() + 3 : wrongIn(thing, begin,
                        parts) + 2);
            }
            ahead = ahead + parts[0] + " ";
        }
    }

    // "<=" and "((" are two things each: the first one may be right.
    private static int wrongIn(String thing, int begin, String[] parts) {
        boolean firstMay = mayStand(thing.substring(0, 1), parts[1]) || mayStand(thing.substring(0, 1), parts[2]);
        return thing.equals("<=") && firstMay ? begin + 1 : begin;
    }

    private static boolean mayStand(String thing, String list) {
        List<String> may = Arrays.asList(list.split(" "));
        for (String one : may) {
            if (one.startsWith("#") && thing.matches("[0-9]{1,4}")
                    && Integer.parseInt(thing) <= Integer.parseInt(one.substring(1))) {
                return true;
            }
        }
        return !thing.startsWith("#") && (may.contains(thing) || thing.equals("((") && may.contains("("));
    }

    // Words are as long as a to z go on; between all there may be blanks (32).
    private static void everyByte() throws Exception {
        for (int b = 0; b < 256; b++) {
            String sign = "" + (char) b;
            boolean letter = b >= 'a' && b <= 'z';
            boolean digit = b >= '0' && b <= '9';
            boolean blank = b == ' ';
            for (int language = GAME; language <= RULES; language++) {
                fault(language, sign, blank ? -1 : 0);
            }
            fault(GAME, "even 1" + sign, blank || b == '0' ? -1 : digit ? 5 : b == ';' ? 7 : 6);
            fault(GOALS, "add 1" + sign, blank || digit ? -1 : b == ';' || b == '*' ? 6 : 5);
            fault(RULES, "wait if late" + sign, blank ? -1 : letter ? 8 : b == ';' ? 13 : 12);
            fault(GAME, "even" + sign, letter ? 0 : digit ? -1 : blank ? 5 : 4);
            fault(GAME, "even" + sign + "1", letter ? 0 : blank || b == '0' ? -1 : 4);
            fault(RULES, "play if late" + sign + "or late", letter ? 8 : blank ? -1 : b == ';' ? 13 : 12);
        }
        fault(GAME, "at7 3to0 0 100;kick7 9999;even10", -1);
        fault(GAME, "at 73 to 0 0 100", 3);
        fault(GAME, "at7 3goal100;at7 3lost0", -1);
        fault(GOALS, "add9999*minute if1>ahead;less5", -1);
        fault(RULES, "stop if1+zone>free and not(late or 2<3);wait if late", -1);
        fault(RULES, "stopif late", 0);
        fault(RULES, "stop iflate", 5);
        fault(RULES, "stop if notlate", 8);
        fault(RULES, "stop if 1>0and 1>0or 1>0", -1);
    }

    // 1 to 4 digits, and each number's bounds.
    private static void digits() throws Exception {
        for (int n = 0; n <= 101; n++) {
            for (int digits = 1; digits <= 6; digits++) {
                StringBuilder padded = new StringBuilder("" + n);
                while (padded.length() < digits) {
                    padded.insert(0, "0");
                }
                boolean few = padded.length() <= 4;
                fault(GAME, "even " + padded, few && n <= 10 ? -1 : 5);
                fault(GAME, "at " + padded + " 0 goal 1", few && n <= 7 ? -1 : 3);
                fault(GAME, "at 0 " + padded + " lost 1", few && n <= 3 ? -1 : 5);
                fault(GAME, "at 0 0 to " + padded + " 0 1", few && n <= 7 ? -1 : 10);
                fault(GAME, "at 0 0 to 0 " + padded + " 1", few && n <= 3 ? -1 : 12);
                fault(GAME, "at 0 0 to 0 0 " + padded, few && n <= 100 ? -1 : 14);
                fault(GAME, "at 0 0 goal " + padded, few && n <= 100 ? -1 : 12);
                fault(GAME, "at 0 0 lost " + padded, few && n <= 100 ? -1 : 12);
                fault(GAME, "kick " + padded + " 1", few && n <= 7 ? -1 : 5);
                fault(GAME, "kick 0 " + padded, few ? -1 : 7);
                fault(GOALS, "less " + padded, few ? -1 : 5);
                fault(GOALS, "add 1 if " + padded + " > 1", few ? -1 : 9);
                fault(RULES, "stop if 1 < 1 + " + padded, few ? -1 : 16);
            }
        }
        Check.due("kick 9999", Given.game("kick 0 9999;kick 7 09").kick(0), 9999);
        Check.due("kick 09", Given.game("kick 0 9999;kick 7 0009").kick(7), 9);
        Check.due("no kick again", Given.game("kick 3 9999;kick 3 0").kick(3), 0);
        Check.due("even 0", Given.game("even 0").count(4), 0);
        Check.due("even 10", Given.game("even 0010").count(4), 10);
        fault(GAME, "kick 0 10000", 7);
        fault(GOALS, "add 10000", 4);
        fault(RULES, "stop if 10000 > 1", 8);
    }

    // At most 12 LINES; of a 13th LINE its first word.
    private static void lines() throws Exception {
        for (int language = GAME; language <= RULES; language++) {
            for (int n = 1; n <= 12; n++) {
                String text = Given.lines(n, LINE[language]);
                fault(language, text, -1);
                fault(language, text + ";", text.length() + 1);
                fault(language, text + " ;  ", text.length() + 4);
                fault(language, text + ";;", text.length() + 1);
                fault(language, ";" + text, 0);
                fault(language, text + " " + LINE[language], text.length() + 1);
            }
            String twelve = Given.lines(12, LINE[language]);
            fault(language, twelve + ";" + LINE[language], twelve.length() + 1);
            fault(language, twelve + " ;  " + LINE[language], twelve.length() + 4);
            fault(language, twelve + ";" + LINE[language] + ";" + LINE[language], twelve.length() + 1);
            fault(language, twelve + ";even 99", twelve.length() + 1);
            fault(language, twelve + ";add", twelve.length() + 1);
            fault(language, twelve + "; 7", twelve.length() + 2);
            Object lines = read(Given.fed(new WhistleBook(), twelve), language);
            Check.due("12 LINES as " + kind(language), lines, language == GAME ? 1L : language == GOALS ? 12L : 5L);
        }
        String above = Given.lines(12, "at 0 0 to 0 1 99");
        fault(GAME, above.substring(0, above.length() - 2) + "9;at 0 0 goal 99", above.length());
        WhistleBook x = Given.goals(new WhistleBook(), Given.lines(11, "add 1") + ";add 100");
        Check.due("all of 12 LINES count", x.goal(), 111);
        Check.due("12 LINES", x.count(1), 12);
        Given.game(x, Given.lines(11, "even 1") + ";even 9");
        Check.due("the 12th LINE of a GAME", x.count(4), 9);
    }

    // ( and not within one another at most 6 deep: of each mixture of them the 7th is wrong.
    private static void depths() throws Exception {
        for (int deep = 0; deep <= 9; deep++) {
            for (int mixture = 0; mixture < 1 << deep; mixture += deep > 7 ? 7 : 1) {
                depth(GOALS, "add 1 if ", "1 > 0", deep, mixture);
                depth(RULES, "stop if ", "late", deep, mixture);
            }
        }
    }

    private static void depth(int language, String begun, String atom, int deep, int mixture) throws Exception {
        StringBuilder text = new StringBuilder(begun);
        int seventh = -1;
        int closed = 0;
        int nots = 0;
        for (int n = 0; n < deep; n++) {
            boolean not = (mixture >> n & 1) == 1;
            seventh = n == 6 ? text.length() : seventh;
            text.append(not ? "not " : "(");
            nots += not ? 1 : 0;
            closed += not ? 0 : 1;
        }
        text.append(atom).append(Given.times(closed, ")"));
        fault(language, text.toString(), seventh);
        if (deep <= 6 && language == GOALS) {
            Check.due("holds: " + text, Given.goals(new WhistleBook(), text.toString()).goal(), nots % 2 == 0 ? 1 : 0);
        }
        if (deep == 6) {
            fault(language, text + ")", text.length());
            fault(language, text.substring(0, text.length() - closed), closed == 0 ? -1 : text.length() - closed);
        }
    }

    // Only what is within one another counts.
    private static void notSoDeep() throws Exception {
        fault(RULES, "stop if " + Given.times(16, "not late and (late) or ") + "late", -1);
        fault(RULES, "stop if ((((((late)))))) and ((((((late)))))) or not not not not not not late", -1);
        fault(RULES, "stop if (((((late)))) and not (late)) or late", -1);
        fault(RULES, "stop if (((((late and not (late", 26);
        fault(RULES, "stop if (((((late) and not (late", 32);
        fault(RULES, "stop if not (late and not (late and not (late and not late)))", 8 + 3 * 14);
        String full = "1 > 2 or 2 > 1 and 1+1+1 > 2 and (";
        fault(RULES, "stop if " + Given.times(6, full) + "1+1+1>1+1" + Given.times(6, ")"), -1);
        fault(RULES, "stop if " + Given.times(7, full) + "late", 8 + 7 * full.length() - 1);
        WhistleBook x = Given.rule(new WhistleBook(), "stop if " + Given.times(6,
                full) + "1+1+1>1+1" + Given.times(6, ")"));
        Given.rule(x, "stop if " + Given.times(6, full) + "1+1+1>1+1+1" + Given.times(6, ")"));
        x.sort(0, 0);
        Check.due("6 deep holds", x.does(5, 0, 0, 0, 0, 0), 0);
        Check.due("6 deep does not hold", x.does(6, 0, 0, 0, 0, 0), 2);
    }

    // A text by which the chances of some STATE would be above 100 (behind all of it): its fault is its length.
    private static void chancesTogether() throws Exception {
        for (int state = 0; state < 32; state++) {
            String at = "at " + state / 4 + " " + state % 4;
            fault(GAME, at + " goal 50;" + at + " lost 50", -1);
            fault(GAME, at + " goal 51;" + at + " lost 50", 2 * at.length() + 17);
            fault(GAME, at + " to 7 3 100;" + at + " to 0 0 1 ", 2 * at.length() + 22);
            fault(GAME, at + " to 7 3 33;" + at + " to 0 0 33;" + at + " goal 34;" + at + " lost 0", -1);
        }
        fault(GAME, "at 0 0 goal 100;at 0 0 lost 100;at 0 0 goal 0", -1);
        fault(GAME, "at 0 0 goal 100;at 0 0 lost 100;at 0 0 goal 1", 45);
        fault(GAME, "at 0 0 goal 100;at 0 0 goal 100", -1);
        fault(GAME, "at 0 0 goal 100;at 0 0 lost 1;x", 30);
        fault(GAME, "at 0 0 to 0 0 100;at 0 0 goal 1;even 5  ", 40);
        WhistleBook x = Given.game("at 4 1 to 4 1 60;at 4 1 goal 30;at 4 1 lost 10");
        Check.due("none stays", x.follows(17, 34), 0);
        Given.fed(x, "at 4 1 to 0 0 1");
        Check.due("1 more by a second text", read(x, GAME), Given.NUMBER);
        Check.due("its length", x.fault(), 15);
        Given.fed(x, "at 4 1 to 0 0 1;at 4 1 lost 9");
        Check.due("1 more, and 1 less", read(x, GAME), 2L);
        Check.due("100 again", x.follows(17, 34), 0);
        Given.game(x, "at 4 1 lost 8");
        Check.due("1 stays", x.follows(17, 34), 1);
        StringBuilder all = new StringBuilder("at 4 1 to 4 1 0;at 4 1 goal 0;at 4 1 lost 0;at 4 1 to 0 0 0");
        Given.game(x, all.toString());
        Check.due("all stays", x.follows(17, 34), 100);
        for (int text = 0; text < 3; text++) {
            StringBuilder some = new StringBuilder();
            for (int to = 11 * text; to < Math.min(32, 11 * text + 11); to++) {
                some.append(to % 11 == 0 ? ""
                        : ";").append("at 4 1 to ").append(to / 4).append(" ").append(to % 4).append(" 3");
            }
            Given.game(x, some.toString());
        }
        Check.due("3 each to all", x.follows(17, 34), 4);
        Given.fed(x, "at 4 1 goal 5");
        Check.due("5 are too many", read(x, GAME), Given.NUMBER);
        Given.game(x, "at 4 1 goal 4");
        Check.due("4 are not", x.follows(17, 34), 0);
    }

    // UnsupportedOperationException: there are 12; a text that is wrong is told first.
    private static void gameTexts() throws Exception {
        WhistleBook x = new WhistleBook();
        for (int n = 1; n <= 12; n++) {
            Given.fed(x, n == 7 ? "" : "kick 0 " + n + ";at 0 " + n % 4 + " goal " + n);
            Check.due("text " + n, read(x, GAME), (long) n);
            Given.fed(x, "kick 0 77;");
            Check.due("a wrong one does not count", read(x, GAME), Given.NUMBER);
            Check.due("texts", x.count(0), n);
        }
        for (String right : new String[] {"", "  ", "kick 0 13", "at 0 0 goal 1"}) {
            Given.fed(x, right);
            Check.due("13th text '" + right + "'", read(x, GAME), Given.ROOM);
            Check.due("no fault of it", x.fault(), -1);
        }
        for (String wrong : new String[] {"kick", "at 0 0 goal 100;at 0 0 lost 1", ";"}) {
            Given.fed(x, wrong);
            Check.due("13th text '" + wrong + "'", read(x, GAME), Given.NUMBER);
            Check.due("its fault", x.fault(), wrong.equals(";") ? 0 : wrong.length());
        }
        Check.due("12 texts", x.count(0), 12);
        Check.due("kick of the 12th", x.kick(0), 12);
        Check.due("chance of the 12th", x.follows(0, 32), 12);
        Check.due("chance of the 11th", x.follows(3, 32), 11);
        Check.due("GOALS are another thing", read(Given.fed(x, "add 1"), GOALS), 1L);
    }

    // RULES (at most 4).
    private static void ruleTexts() throws Exception {
        WhistleBook x = new WhistleBook();
        x.sort(0, 0);
        String[] rules = {"stop if 1 > 0", "play if 1 > 0", "wait if 1 > 0", "stop if zone > 0"};
        for (int n = 0; n < 4; n++) {
            Given.fed(x, rules[n] + ";");
            Check.due("a wrong one does not count", read(x, RULES), Given.NUMBER);
            Check.due("rule " + n, read(Given.fed(x, rules[n]), RULES), 5L + n);
            Check.due("RULES", x.count(2), n + 1);
        }
        for (String right : new String[] {"", "stop if late"}) {
            Check.due("a 5th '" + right + "'", read(Given.fed(x, right), RULES), Given.ROOM);
            Check.due("no fault of it", x.fault(), -1);
        }
        Check.due("a wrong 5th", read(Given.fed(x, "stop if"), RULES), Given.NUMBER);
        Check.due("its fault", x.fault(), 7);
        int[] deeds = {0, 1, 2, 2};
        for (int n = 0; n < 4; n++) {
            Check.due("RULE " + n + " as it was", x.does(5 + n, 0, 0, 0, 0, 0), deeds[n]);
        }
    }

    // GOALS: one text, in place of the one before; 10000 as long as none was told (an empty one tells 0).
    private static void goalsInPlace() throws Exception {
        WhistleBook x = new WhistleBook();
        Check.due("a wrong one is none told", read(Given.fed(x, "add 5;"), GOALS), Given.NUMBER);
        Check.due("10000", x.goal(), 10000);
        for (int n = 0; n < 20; n++) {
            Check.due("GOALS " + n, read(Given.fed(x, n % 3 == 0 ? "add " + n : "add 100;add " + n), GOALS),
                    n % 3 == 0 ? 1L : 2L);
            Check.due("GOAL WORTH " + n, x.goal(), n % 3 == 0 ? n : 100 + n);
            Check.due("a wrong one", read(Given.fed(x, "less 1;less"), GOALS), Given.NUMBER);
            Check.due("GOAL WORTH as it was", x.goal(), n % 3 == 0 ? n : 100 + n);
            Check.due("LINES", x.count(1), n % 3 == 0 ? 1 : 2);
        }
        Check.due("an empty one", read(x, GOALS), 0L);
        Check.due("tells 0", x.goal(), 0);
        Check.due("LINES of none", x.count(1), 0);
    }

    // The first wrong byte of the latest text that was read; NONE without one, and ahead of any.
    private static void faults() throws Exception {
        for (int language = GAME; language <= RULES; language++) {
            for (int other = GAME; other <= RULES; other++) {
                WhistleBook x = new WhistleBook();
                Check.due("ahead of any", x.fault(), -1);
                Given.fed(x, "   ?");
                Check.due("not read yet", x.fault(), -1);
                read(x, language);
                Check.due("the fault of one", x.fault(), 3);
                Given.fed(x, " x");
                Check.due("the latest was read", x.fault(), 3);
                read(x, other);
                Check.due("the fault of another", x.fault(), 1);
                read(x, language);
                Check.due("no fault of an empty one", x.fault(), -1);
                read(Given.fed(x, "?"), language);
                x.image();
                Check.due("the fault behind all", x.fault(), 0);
                read(Given.fed(x, LINE[other]), other);
                Check.due("no fault of a right one", x.fault(), -1);
                x.back();
                Check.due("fault() does not go back", x.fault(), -1);
            }
        }
    }

    // A call that throws changes nothing but the TAPE, where it is used up.
    private static void refusedTexts() throws Exception {
        String[] wrong = {"at 0 0 goal 5;kick 1 9;even 3;at 7 3 lost 3;x", "kick 1 9;even 3;at 7 3 goal 81", "even 3;"};
        for (String text : wrong) {
            unchanged(GAME, text, 1, Given.NUMBER);
        }
        for (String text : new String[] {"add 1;add", "less 9 if 1", "add 77 if zone > 1"}) {
            unchanged(GOALS, text, 1, Given.NUMBER);
        }
        unchanged(RULES, "stop if late;stop", 1, Given.NUMBER);
        unchanged(RULES, "stop if 1 > 0", 3, Given.ROOM);
        unchanged(RULES, "", 3, Given.ROOM);
        unchanged(GAME, "kick 1 9;even 3;at 7 3 goal 11", 12, Given.ROOM);
        unchanged(GAME, "kick 1 9;even 3;at 7 3 goal 99", 12, Given.NUMBER);
    }

    private static void unchanged(int language, String text, int texts, String due) throws Exception {
        Seen.Maker made = () -> {
            WhistleBook x = BoundsTest.made();
            for (int n = 0; n < texts; n++) {
                x.end(0);
                read(x, language);
            }
            x.end(0);
            return x;
        };
        String before = Seen.of(made).replaceAll("fault -?[0-9]+", "");
        String behind = Seen.of(() -> {
            WhistleBook x = Given.fed(made.make(), text);
            Check.due(kind(language) + "() of '" + text + "'", read(x, language), due);
            return x;
        }).replaceAll("fault -?[0-9]+", "");
        Check.due("all behind " + kind(language) + "() of '" + text + "'", behind, before);
    }
}
