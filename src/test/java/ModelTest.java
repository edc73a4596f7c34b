import java.util.Random;
import java.util.concurrent.Callable;

/** Drawn runs of calls, the same each time: WhistleBook answers all of them as the Model does. */
public final class ModelTest {
    private static final int RUNS = 120;
    private static final int CALLS = 300;

    private final Random random;
    private final int run;
    private final WhistleBook book = new WhistleBook();
    private final Model model = new Model();

    private ModelTest(int run) {
        this.run = run;
        this.random = new Random(run);
    }

    public static void main(String[] args) throws Exception {
        for (int run = 0; run < RUNS; run++) {
            new ModelTest(run).go();
        }
        Check.end("ModelTest");
    }

    private void go() throws Exception {
        begin();
        for (int n = 0; n < CALLS; n++) {
            step();
            if (chance(4)) {
                compare("fault", () -> (long) book.fault(), () -> (long) model.fault());
            }
        }
        compareAll();
    }

    private void compare(String call, Callable<?> ours, Callable<?> due) {
        Check.due("run " + run + ": " + call, Check.answer(ours), Check.answer(due));
    }

    private boolean chance(int of) {
        return random.nextInt(of) == 0;
    }

    /** Mostly a number from least to most, at times one beyond, or one far away. */
    private int number(int least, int most) {
        int kind = random.nextInt(60);
        if (kind == 0) {
            return least - 1;
        }
        if (kind == 1) {
            return most + 1;
        }
        if (kind == 2) {
            return random.nextInt();
        }
        if (kind < 8) {
            return chance(2) ? least : most;
        }
        return least + random.nextInt(Math.max(1, most - least + 1));
    }

    private int state() {
        return chance(2) ? number(0, 31) : lively();
    }

    // Few STATES, so that what follows from one of them leads to another one.
    private int lively() {
        int[] states = {0, 1, 4, 5, 9, 14, 27, 31};
        return states[random.nextInt(states.length)];
    }

    private void begin() throws Exception {
        if (chance(10)) {
            fullGame();
        } else {
            for (int n = random.nextInt(5); n >= 0; n--) {
                game();
            }
        }
        for (int n = random.nextInt(4); n > 0; n--) {
            sort();
        }
        for (int n = random.nextInt(3); n > 0; n--) {
            text(rule(), "rule");
        }
        for (int n = random.nextInt(20); n > 0; n--) {
            rate();
        }
    }

    private void game() throws Exception {
        StringBuilder text = new StringBuilder();
        for (int n = chance(20) ? 12 + random.nextInt(2) : random.nextInt(12); n >= 0; n--) {
            text.append(gameLine()).append(n == 0 ? "" : ";");
        }
        text(text.toString(), "game");
    }

    /** As many MOVES as 12 texts can tell, and some GOALS. */
    private void fullGame() throws Exception {
        for (int n = 0; n < 144; n += 12) {
            StringBuilder text = new StringBuilder();
            for (int i = n; i < n + 12; i++) {
                int from = i % 32;
                int to = (from + 1 + 5 * (i / 32)) % 32;
                text.append(i == n ? "" : ";").append("at ").append(from / 4).append(" ").append(from % 4);
                text.append(i >= 142 ? "goal " : "to " + to / 4 + " " + to % 4 + " ");
                text.append(1 + random.nextInt(20));
            }
            read(text.toString(), "game");
        }
    }

    private String gameLine() {
        int kind = random.nextInt(12);
        if (kind == 0) {
            return "kick" + gap() + random.nextInt(8) + space() + upTo(4000);
        }
        if (kind == 1) {
            return "even" + gap() + random.nextInt(11);
        }
        String at = "at" + gap() + place();
        if (kind < 4) {
            return at + gap() + "goal" + gap() + random.nextInt(30);
        }
        if (kind < 6) {
            return at + gap() + "lost" + gap() + random.nextInt(25);
        }
        return at + gap() + "to" + gap() + place() + space() + random.nextInt(chance(3) ? 101 : 30);
    }

    private String place() {
        int state = chance(5) ? random.nextInt(32) : lively();
        return state / 4 + space() + state % 4;
    }

    private String upTo(int most) {
        String n = "" + random.nextInt(most + 1);
        return chance(9) && n.length() < 4 ? "0" + n : n;
    }

    private String gap() {
        return chance(6) ? "" : space();
    }

    private String space() {
        return chance(15) ? "  " : " ";
    }

    private String rule() {
        StringBuilder text = new StringBuilder();
        for (int n = random.nextInt(4); n > 0; n--) {
            String[] verbs = {"stop", "play", "wait"};
            text.append(verbs[random.nextInt(3)]).append(space()).append("if").append(gap());
            text.append(space()).append(condition(random.nextInt(4), true)).append(n == 1 ? "" : ";");
        }
        return text.toString();
    }

    private String goals() {
        StringBuilder text = new StringBuilder();
        for (int n = random.nextInt(5); n > 0; n--) {
            text.append(chance(3) ? "less" : "add").append(space());
            boolean factor = chance(2);
            text.append(upTo(factor ? 300 : 9999));
            text.append(factor ? gap() + "*" + gap() + fact(false) : "");
            text.append(chance(2) ? space() + "if" + space() + condition(random.nextInt(3), false) : "");
            text.append(n == 1 ? "" : gap() + ";" + gap());
        }
        return text.toString();
    }

    private String fact(boolean ofRules) {
        String[] facts = {"minute", "ahead", "behind", "zone", "free", "second", "kick"};
        return facts[random.nextInt(ofRules || chance(60) ? 7 : 3)];
    }

    private String condition(int deep, boolean ofRules) {
        int kind = random.nextInt(deep <= 0 ? 2 : 7);
        if (kind == 0 && (ofRules || chance(30)) && chance(3)) {
            return "late";
        }
        if (kind < 3) {
            return sum(ofRules) + gap() + (chance(2) ? "<" : ">") + gap() + sum(ofRules);
        }
        if (kind == 3) {
            return "not" + space() + condition(deep - 1, ofRules);
        }
        if (kind == 4) {
            return "(" + gap() + condition(deep - 1, ofRules) + gap() + ")";
        }
        String joint = space() + (kind == 5 ? "and" : "or") + space();
        return condition(deep - 1, ofRules) + joint + condition(deep - 1, ofRules);
    }

    private String sum(boolean ofRules) {
        String part = chance(2) ? fact(ofRules) : upTo(chance(2) ? 6 : 90);
        return chance(3) ? part + gap() + "+" + gap() + sum(ofRules) : part;
    }

    private String spoil(String text) {
        StringBuilder spoilt = new StringBuilder(text);
        String signs = "09 ;()<>+*tonailed\u0000\u00ff\tA";
        for (int n = random.nextInt(3); n >= 0; n--) {
            int at = random.nextInt(spoilt.length() + 1);
            if (chance(2) && at < spoilt.length()) {
                spoilt.deleteCharAt(at);
            } else {
                spoilt.insert(at, signs.charAt(random.nextInt(signs.length())));
            }
        }
        return spoilt.toString();
    }

    private void text(String right, String kind) throws Exception {
        String drawn = chance(5) ? spoil(right) : right;
        read(drawn.length() > 400 ? drawn.substring(0, 400) : drawn, kind);
    }

    private void read(String text, String kind) throws Exception {
        compare("end(0)", () -> book.end(0), () -> model.end(0));
        Check.feed(book::feed, book::end, text);
        Check.feed(model::feed, model::end, text);
        String call = kind + "() of " + text;
        if (kind.equals("game")) {
            compare(call, book::game, model::game);
        } else if (kind.equals("goals")) {
            compare(call, book::goals, model::goals);
        } else {
            compare(call, book::rule, model::rule);
        }
        compare("fault behind " + call, book::fault, model::fault);
    }

    private void sort() {
        int card = number(0, chance(2) ? 3000 : 9999);
        int forgotten = chance(3) ? 100 : number(0, 100);
        compare("sort", () -> book.sort(card, forgotten), () -> model.sort(card, forgotten));
    }

    private void rate() {
        int sort = number(0, model.count(3) - 1);
        int state = state();
        int n = chance(3) ? number(0, 999) : number(0, 40);
        compare("rate", () -> book.rate(sort, state, n), () -> model.rate(sort, state, n));
    }

    private void step() throws Exception {
        int kind = random.nextInt(100);
        if (kind < 14) {
            tell(kind);
        } else if (kind < 36) {
            askOfPlaces(kind - 14);
        } else {
            int judge = number(0, 4 + model.count(2));
            int bar = number(0, 31);
            int sort = number(0, model.count(3) - 1);
            int zone = chance(2) ? number(0, 7) : random.nextInt(3);
            if (kind < 75) {
                askOfJudge(kind - 36, judge, bar, sort, zone);
            } else {
                askOfMany(kind - 75, judge, bar, sort, zone);
            }
        }
    }

    private void tell(int kind) throws Exception {
        switch (kind) {
            case 0:
                game();
                break;
            case 1:
                text(goals(), "goals");
                break;
            case 2:
                text(rule(), "rule");
                break;
            case 3:
                sort();
                break;
            case 4:
            case 5:
                rate();
                break;
            case 6:
                int minute = number(0, 90);
                int score = number(-9, 9);
                compare("now", () -> { book.now(minute, score); return 0; },
                        () -> { model.now(minute, score); return 0; });
                break;
            case 7:
                int lost = number(0, 9999);
                compare("lost", () -> { book.lost(lost); return 0; }, () -> { model.lost(lost); return 0; });
                break;
            case 8:
                int horizon = chance(3) ? number(1, 4) : number(1, 60);
                compare("horizon", () -> { book.horizon(horizon); return 0; },
                        () -> { model.horizon(horizon); return 0; });
                break;
            case 9:
                int grace = number(0, 10);
                compare("grace", () -> { book.grace(grace); return 0; },
                        () -> { model.grace(grace); return 0; });
                break;
            case 10:
                int patience = chance(2) ? number(0, 3) : number(0, 99);
                compare("patience", () -> { book.patience(patience); return 0; },
                        () -> { model.patience(patience); return 0; });
                break;
            case 11:
                compare("back", book::back, model::back);
                break;
            case 12:
                if (chance(3)) {
                    book.image();
                    model.image();
                }
                break;
            default:
                tape();
                break;
        }
    }

    private void tape() {
        for (int n = chance(5) ? 22 : 1; n > 0; n--) {
            int a = random.nextInt();
            int e = random.nextInt();
            compare("feed", () -> book.feed(a, 1, 2, 3, e), () -> model.feed(a, 1, 2, 3, e));
            int end = number(0, chance(2) ? 20 : 400);
            if (chance(9)) {
                compare("end " + end, () -> book.end(end), () -> model.end(end));
            }
        }
    }

    private void askOfPlaces(int kind) {
        int state = state();
        int n = number(0, 34);
        int other = number(0, 30);
        int many = number(0, 30);
        switch (kind / 3) {
            case 0:
                compare("follows", () -> book.follows(state, n), () -> model.follows(state, n));
                break;
            case 1:
                compare("kick", () -> book.kick(n / 4), () -> model.kick(n / 4));
                break;
            case 2:
                compare("goal", book::goal, model::goal);
                break;
            case 3:
                int t = number(0, 60);
                compare("worth", () -> book.worth(state, t), () -> model.worth(state, t));
                break;
            case 4:
                compare("count", () -> book.count(n / 3), () -> model.count(n / 3));
                break;
            case 5:
                int itsStops = number(0, Math.min(30, many));
                int otherStops = number(0, Math.min(30, other));
                boolean all = chance(3);
                compare("leans", () -> book.leans(many, itsStops, other, otherStops, all),
                        () -> model.leans(many, itsStops, other, otherStops, all));
                break;
            default:
                int sort = number(0, model.count(3) - 1);
                compare("often", () -> book.often(sort, state), () -> model.often(sort, state));
                break;
        }
    }

    private void askOfJudge(int kind, int judge, int bar, int sort, int zone) {
        int state = state();
        int j = number(0, model.count(4));
        int what = number(0, 2);
        int seed = random.nextInt();
        boolean flag = chance(2);
        switch (kind / 3) {
            case 0:
                compare("stop", () -> book.stop(sort, zone, flag), () -> model.stop(sort, zone, flag));
                break;
            case 1:
            case 2:
                compare("judge", () -> book.judge(judge, bar, sort, zone, state, j),
                        () -> model.judge(judge, bar, sort, zone, state, j));
                break;
            case 3:
            case 4:
                compare("does", () -> book.does(judge, bar, sort, zone, state, j),
                        () -> model.does(judge, bar, sort, zone, state, j));
                break;
            case 5:
                compare("waits", () -> book.waits(sort, zone, state), () -> model.waits(sort, zone, state));
                break;
            case 6:
                compare("enough", () -> book.enough(sort, zone, state), () -> model.enough(sort, zone, state));
                break;
            case 7:
                int place = chance(3) ? -1 : state;
                compare("loses", () -> book.loses(judge, bar, sort, zone, place),
                        () -> model.loses(judge, bar, sort, zone, place));
                break;
            case 8:
                int second = number(0, model.count(3) - 1);
                int itsZone = number(0, 7);
                compare("two", () -> book.two(sort, zone, second, itsZone, state, flag),
                        () -> model.two(sort, zone, second, itsZone, state, flag));
                break;
            case 9:
            case 10:
                compare("played", () -> book.played(judge, bar, sort, zone, state, seed),
                        () -> model.played(judge, bar, sort, zone, state, seed));
                break;
            default:
                compare("ends", () -> book.ends(judge, bar, sort, zone, state, what),
                        () -> model.ends(judge, bar, sort, zone, state, what));
                break;
        }
    }

    private void askOfMany(int kind, int judge, int bar, int sort, int zone) {
        int what = number(0, 4);
        int seed = random.nextInt();
        boolean flag = chance(2);
        switch (kind / 2) {
            case 0:
                int other = number(0, 4 + model.count(2));
                compare("part", () -> book.part(judge, other, bar, sort, zone, flag),
                        () -> model.part(judge, other, bar, sort, zone, flag));
                break;
            case 1:
                compare("bar", () -> book.bar(sort, zone), () -> model.bar(sort, zone));
                break;
            case 2:
            case 3:
                compare("pays", () -> book.pays(judge, bar, sort), () -> model.pays(judge, bar, sort));
                break;
            case 4:
                int states = chance(3) ? random.nextInt() : 1 << lively();
                if (chance(4)) {
                    compare("least", () -> book.least(judge, bar, sort, states),
                            () -> model.least(judge, bar, sort, states));
                }
                break;
            case 5:
                compare("match", () -> book.match(judge, bar, flag), () -> model.match(judge, bar, flag));
                break;
            case 6:
                if (chance(2)) {
                    compare("learn", () -> book.learn(judge, bar), () -> model.learn(judge, bar));
                    compareAllRates();
                }
                break;
            case 7:
                compare("mean", () -> book.mean(judge, bar, what), () -> model.mean(judge, bar, what));
                break;
            case 8:
                compare("plain", () -> book.plain(sort, zone), () -> model.plain(sort, zone));
                break;
            case 9:
                compare("right", () -> book.right(judge, bar, sort, zone),
                        () -> model.right(judge, bar, sort, zone));
                break;
            case 10:
                compare("rest", () -> book.rest(bar, sort, what), () -> model.rest(bar, sort, what));
                break;
            default:
                int many = number(1, chance(3) ? 200 : 20);
                compare("season", () -> book.season(judge, bar, many, seed, what),
                        () -> model.season(judge, bar, many, seed, what));
                break;
        }
    }

    private void compareAllRates() {
        for (int n = 0; n < 6 * 32; n++) {
            int sort = n / 32;
            int state = n % 32;
            compare("often " + n, () -> book.often(sort, state), () -> model.often(sort, state));
        }
    }

    private void compareAll() {
        compareAllRates();
        for (int n = -1; n <= 10; n++) {
            int what = n;
            compare("count " + n, () -> book.count(what), () -> model.count(what));
            compare("kick " + n, () -> book.kick(what), () -> model.kick(what));
        }
        for (int n = 0; n < 32 * 35; n++) {
            int state = n / 35;
            int what = n % 35;
            compare("follows " + n, () -> book.follows(state, what), () -> model.follows(state, what));
        }
    }
}
