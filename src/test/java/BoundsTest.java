import java.util.ArrayList;
import java.util.List;

/**
 * Every number of every call just inside and just outside its bounds, all of them with all others: of several
 * exceptions the one told first is thrown, and behind it nothing has changed.
 */
public final class BoundsTest {
    // A SORT's, a JUDGE's and a second's greatest numbers are those of the object that is asked, made below.
    private static final Bound STATE = new Bound(0, 31, Given.PLACE);
    private static final Bound STATE_OR_NONE = new Bound(-1, 31, Given.PLACE);
    private static final Bound ZONE = new Bound(0, 7, Given.PLACE);
    private static final Bound SORT = new Bound(0, 1, Given.PLACE);
    private static final Bound JUDGE = new Bound(0, 6, Given.PLACE);
    private static final Bound BAR = new Bound(0, 31, Given.NUMBER);
    private static final Bound TOLD_BAR = new Bound(0, 31, Given.NUMBER);
    private static final Bound SECOND = new Bound(0, 2, Given.NUMBER);
    private static final Bound FLAG = new Bound(0, 1, "");
    private static final Bound ANY = new Bound(Given.LEAST, Given.MOST, "");
    private static final String[] ORDER = {Given.PLACE, Given.NUMBER, Given.WHAT};

    private static final int CALLS = 64;

    private final String name;
    private final boolean changes;
    private final Asked asked;
    private final Bound[] bounds;
    private final List<int[]> quiet = new ArrayList<>();

    private BoundsTest(String name, boolean changes, Asked asked, Bound... bounds) {
        this.name = name;
        this.changes = changes;
        this.asked = asked;
        this.bounds = bounds;
    }

    private interface Asked {
        Object of(WhistleBook x, int[] n) throws Exception;
    }

    private static final class Bound {
        final int least;
        final int most;
        final String thrown;

        Bound(int least, int most, String thrown) {
            this.least = least;
            this.most = most;
            this.thrown = thrown;
        }

        boolean holds(int n) {
            return n >= least && n <= most;
        }

        int[] values() {
            if (this == FLAG || this == ANY) {
                return new int[] {least, most};
            }
            if (this == JUDGE) {
                return new int[] {least - 1, least, Given.BAR, most, most + 1};
            }
            return new int[] {least - 1, least, most, most + 1};
        }
    }

    private static Bound number(int least, int most) {
        return new Bound(least, most, Given.NUMBER);
    }

    private static Bound what(int most) {
        return new Bound(0, most, Given.WHAT);
    }

    public static void main(String[] args) throws Exception {
        told();
        ofPlaces();
        ofJudges();
        ofMany();
        season();
        sorts();
        leans();
        growing();
        Check.end("BoundsTest");
    }

    /** One in which everything is told, with THE IMAGE of another time, a fault, and a text on its TAPE. */
    static WhistleBook made() throws Exception {
        WhistleBook x = Given.game("at 7 2 to 7 3 50;at 7 3 goal 40;at 7 3 lost 20;at 0 0 to 7 3 9;"
                + "kick 7 1000;kick 0 7");
        Given.goals(x, "add 9000;add 10 * minute;less 1000 if ahead > 0");
        Given.rule(x, "stop if zone < 7;play if minute > 40");
        Given.rule(x, "play if late;stop if free < 3");
        x.sort(500, 20);
        x.sort(70, 100);
        x.rate(0, 31, 11);
        x.now(80, 3);
        x.image();
        x.now(33, -2);
        x.horizon(3);
        x.patience(5);
        x.lost(99);
        x.rate(1, 0, 4);
        x.rate(0, 31, 10);
        Check.answer(Given.fed(x, "at 7 9")::game);
        return Given.fed(x, "even 7");
    }

    private static void told() throws Exception {
        test("now", true, (x, n) -> tell(() -> x.now(n[0], n[1])), number(0, 90), number(-9, 9));
        test("lost", true, (x, n) -> tell(() -> x.lost(n[0])), number(0, 9999));
        test("horizon", true, (x, n) -> tell(() -> x.horizon(n[0])), number(1, 60));
        test("grace", true, (x, n) -> tell(() -> x.grace(n[0])), number(0, 10));
        test("patience", true, (x, n) -> tell(() -> x.patience(n[0])), number(0, 99));
        test("rate", true, (x, n) -> x.rate(n[0], n[1], n[2]), SORT, STATE, number(0, 999));
    }

    private static Object tell(Given.Tell tell) {
        tell.tell();
        return true;
    }

    private static void ofPlaces() throws Exception {
        test("follows", false, (x, n) -> x.follows(n[0], n[1]), STATE, what(34));
        test("kick", false, (x, n) -> x.kick(n[0]), ZONE);
        test("worth", false, (x, n) -> x.worth(n[0], n[1]), STATE, number(0, 60));
        test("stop", false, (x, n) -> x.stop(n[0], n[1], n[2] == 1), SORT, ZONE, FLAG);
        test("waits", false, (x, n) -> x.waits(n[0], n[1], n[2]), SORT, ZONE, STATE);
        test("enough", false, (x, n) -> x.enough(n[0], n[1], n[2]), SORT, ZONE, STATE);
        test("bar", false, (x, n) -> x.bar(n[0], n[1]), SORT, ZONE);
        test("often", false, (x, n) -> x.often(n[0], n[1]), SORT, STATE);
        test("two", false, (x, n) -> x.two(n[0], n[1], n[2], n[3], n[4], n[5] == 1), SORT, ZONE, SORT, ZONE, STATE,
                FLAG);
        test("plain", false, (x, n) -> x.plain(n[0], n[1]), SORT, ZONE);
        test("count", false, (x, n) -> x.count(n[0]), ANY);
    }

    private static void ofJudges() throws Exception {
        test("judge", false, (x, n) -> x.judge(n[0], n[1], n[2], n[3], n[4], n[5]), JUDGE, BAR, SORT, ZONE, STATE,
                SECOND);
        test("does", false, (x, n) -> x.does(n[0], n[1], n[2], n[3], n[4], n[5]), JUDGE, BAR, SORT, ZONE, STATE,
                SECOND);
        test("loses", false, (x, n) -> x.loses(n[0], n[1], n[2], n[3], n[4]), JUDGE, BAR, SORT, ZONE, STATE_OR_NONE);
        test("part", false, (x, n) -> x.part(n[0], n[1], n[2], n[3], n[4], n[5] == 1), JUDGE, JUDGE, BAR, SORT, ZONE,
                FLAG);
        test("played", false, (x, n) -> x.played(n[0], n[1], n[2], n[3], n[4], n[5]), JUDGE, BAR, SORT, ZONE, STATE,
                ANY);
        test("ends", false, (x, n) -> x.ends(n[0], n[1], n[2], n[3], n[4], n[5]), JUDGE, BAR, SORT, ZONE, STATE,
                what(2));
        test("right", false, (x, n) -> x.right(n[0], n[1], n[2], n[3]), JUDGE, BAR, SORT, ZONE);
    }

    private static void ofMany() throws Exception {
        test("pays", false, (x, n) -> x.pays(n[0], n[1], n[2]), JUDGE, BAR, SORT);
        test("least", false, (x, n) -> x.least(n[0], n[1], n[2], n[3]), JUDGE, BAR, SORT, ANY);
        test("match", false, (x, n) -> x.match(n[0], n[1], n[2] == 1), JUDGE, BAR, FLAG);
        test("learn", true, (x, n) -> x.learn(n[0], n[1]), JUDGE, BAR);
        test("mean", false, (x, n) -> x.mean(n[0], n[1], n[2]), JUDGE, BAR, what(2));
        test("rest", false, (x, n) -> x.rest(n[0], n[1], n[2]), TOLD_BAR, SORT, what(4));
        test("season", false, (x, n) -> x.season(n[0], n[1], n[2], n[3], n[4]), JUDGE, BAR, number(1, 200), ANY,
                what(4));
    }

    private static void test(String name, boolean changes, Asked asked, Bound... bounds) throws Exception {
        BoundsTest test = new BoundsTest(name, changes, asked, bounds);
        test.allTogether();
        test.farOut();
        test.nothingChanged();
    }

    private void allTogether() throws Exception {
        List<int[]> all = new ArrayList<>();
        all.add(new int[bounds.length]);
        for (int i = 0; i < bounds.length; i++) {
            List<int[]> longer = new ArrayList<>();
            for (int[] begun : all) {
                for (int n : bounds[i].values()) {
                    int[] numbers = begun.clone();
                    numbers[i] = n;
                    longer.add(numbers);
                }
            }
            all = longer;
        }
        ask(all);
    }

    private void farOut() throws Exception {
        List<int[]> all = new ArrayList<>();
        for (int i = 0; i < bounds.length; i++) {
            for (int far : new int[] {Given.LEAST, Given.LEAST + 1, -100, 100000, Given.MOST - 1, Given.MOST}) {
                int[] numbers = new int[bounds.length];
                for (int k = 0; k < bounds.length; k++) {
                    numbers[k] = k == i ? far : bounds[k].most;
                }
                if (bounds[i] != FLAG) {
                    all.add(numbers);
                }
            }
        }
        ask(all);
    }

    private void ask(List<int[]> all) throws Exception {
        WhistleBook x = made();
        int calls = 0;
        for (int[] numbers : all) {
            if (calls == 400) {
                x = made();
                calls = 0;
            }
            calls++;
            String due = thrown(numbers);
            WhistleBook it = x;
            Object got = Check.answer(() -> asked.of(it, numbers));
            boolean throwing = got.toString().startsWith("java.");
            Check.due(told(numbers) + " answered " + got + ": throws", throwing ? got : "", due);
            if (changes && due.isEmpty()) {
                calls = 400;
            } else {
                quiet.add(numbers);
            }
        }
    }

    private String told(int[] numbers) {
        StringBuilder told = new StringBuilder(name).append("(");
        for (int i = 0; i < numbers.length; i++) {
            told.append(i == 0 ? "" : ", ").append(numbers[i]);
        }
        return told.append(")").toString();
    }

    private String thrown(int[] numbers) {
        for (String first : ORDER) {
            for (int i = 0; i < bounds.length; i++) {
                boolean free = bounds[i] == BAR && !isBarAsked(numbers);
                if (bounds[i].thrown.equals(first) && !free && !bounds[i].holds(numbers[i])) {
                    return first;
                }
            }
        }
        return "";
    }

    private boolean isBarAsked(int[] numbers) {
        for (int i = 0; i < bounds.length; i++) {
            if (bounds[i] == JUDGE && numbers[i] == Given.BAR) {
                return true;
            }
        }
        return false;
    }

    private void nothingChanged() throws Exception {
        String due = Seen.of(() -> made());
        for (int from = 0; from < quiet.size(); from += CALLS) {
            List<int[]> some = quiet.subList(from, Math.min(quiet.size(), from + CALLS));
            Check.due("behind " + name + " from " + told(some.get(0)) + " on", Seen.of(() -> {
                WhistleBook x = made();
                for (int[] numbers : some) {
                    Check.answer(() -> asked.of(x, numbers));
                }
                return x;
            }), due);
        }
    }

    /** IllegalArgumentException: the bar is none, so many are none, or all RATES are 0. */
    private static void season() throws Exception {
        WhistleBook x = Given.game("even 0");
        for (int what = -1; what <= 5; what++) {
            int asked = what;
            Given.due("a season without a SORT, what " + what, x, y -> y.season(0, 0, 1, 1, asked), Given.NUMBER);
        }
        x.sort(0, 0);
        Given.due("a season without RATES", x, y -> y.season(0, 0, 1, 1, 5), Given.NUMBER);
        Given.due("a season of no JUDGE without RATES", x, y -> y.season(5, 0, 1, 1, 5), Given.PLACE);
        x.rate(0, 31, 1);
        Given.due("a season with one RATE", x, y -> y.season(0, 0, 1, 1, 0), 1);
        Given.due("what is told last", x, y -> y.season(0, 0, 1, 1, 5), Given.WHAT);
        x.rate(0, 31, 0);
        Given.due("a season without RATES again", x, y -> y.season(0, 0, 1, 1, 0), Given.NUMBER);
    }

    /** A SORT: IllegalArgumentException: a number is none; UnsupportedOperationException: there are 6. */
    private static void sorts() throws Exception {
        int[] cards = {Given.LEAST, -1, 0, 9999, 10000, Given.MOST};
        int[] shares = {Given.LEAST, -1, 0, 100, 101, Given.MOST};
        for (int there = 0; there <= 6; there++) {
            WhistleBook x = new WhistleBook();
            for (int n = 0; n < there; n++) {
                x.sort(0, 0);
            }
            for (int card : cards) {
                for (int share : shares) {
                    boolean right = card >= 0 && card <= 9999 && share >= 0 && share <= 100;
                    if (!right || there == 6) {
                        Given.due(there + " SORTS: sort(" + card + ", " + share + ")", x, y -> y.sort(card, share),
                                right ? Given.ROOM : Given.NUMBER);
                    }
                }
            }
            int most = there;
            Given.due(there + " SORTS stay so many", x, y -> y.count(3), there);
            Given.due("no SORT " + there, x, y -> y.stop(most, 0, false), Given.PLACE);
            Given.due("no SORT -1", x, y -> y.often(-1, 0), Given.PLACE);
            if (there < 6) {
                Given.due("a SORT of the greatest numbers", x, y -> y.sort(9999, 100), there);
                Given.due("its STOP", x, y -> y.stop(most, 0, false), 9999);
                Given.due("its AFTERWARDS", x, y -> y.stop(most, 0, true), 0);
            } else {
                Given.due("the 6th SORT as it was", x, y -> y.stop(5, 0, false), 0);
            }
        }
    }

    /** So many, so many of them stopped (0 to 30 each): a number is none, or more are stopped than there are. */
    private static void leans() {
        int[] values = {Given.LEAST, -1, 0, 1, 29, 30, 31, Given.MOST};
        for (int first : values) {
            for (int its : values) {
                WhistleBook x = new WhistleBook();
                for (int second : values) {
                    for (int others : values) {
                        boolean right = first >= 0 && first <= 30 && its >= 0 && its <= first
                                && second >= 0 && second <= 30 && others >= 0 && others <= second;
                        for (int all = 0; all < 2; all++) {
                            boolean asked = all == 1;
                            Object got = Check.answer(() -> x.leans(first, its, second, others, asked));
                            Check.due("leans(" + first + ", " + its + ", " + second + ", " + others + ") is right",
                                    got instanceof Long ? "" : got, right ? "" : Given.NUMBER);
                        }
                    }
                }
            }
        }
    }

    /** A JUDGE more by each RULE, a second more by each of GRACE: the last that is taken, the first that is not. */
    private static void growing() throws Exception {
        WhistleBook x = Given.game("even 0");
        x.sort(1, 1);
        for (int rules = 0; rules <= 4; rules++) {
            int none = 5 + rules;
            Given.due("the last JUDGE of " + rules, x, y -> y.does(none - 1, 0, 0, 0, 0, 0) >= 0, true);
            Given.due("no JUDGE " + none, x, y -> y.does(none, 0, 0, 0, 0, 0), Given.PLACE);
            Given.due("no one " + none, x, y -> y.part(none, 0, 0, 0, 0, false), Given.PLACE);
            Given.due("no other " + none, x, y -> y.part(0, none, 0, 0, 0, false), Given.PLACE);
            Given.due("nobody learns", x, y -> y.learn(none, 0), Given.PLACE);
            if (rules < 4) {
                Given.rule(x, "");
            }
        }
        for (int grace = 0; grace <= 10; grace++) {
            int last = grace;
            x.grace(grace);
            Given.due("the last second of " + grace, x, y -> y.does(0, 0, 0, 0, 0, last), 0);
            Given.due("none behind " + grace, x, y -> y.does(0, 0, 0, 0, 0, last + 1), Given.NUMBER);
            Given.due("none of worth behind " + grace, x, y -> y.judge(0, 0, 0, 0, 0, last + 1), Given.NUMBER);
        }
        x.horizon(1);
        Given.due("seconds of GRACE behind T", x, y -> y.does(0, 0, 0, 0, 0, 10), 0);
        Given.due("seconds left beyond T", x, y -> y.worth(0, 60), 0);
    }
}
