import java.math.BigInteger;
import java.util.ArrayList;
import java.util.List;
import java.util.NoSuchElementException;
import java.util.TreeMap;

/**
 * The document once more, as plainly as it can be said and without a thought of speed: what WhistleBook
 * answers in ModelTest's drawn runs is compared with what this answers.
 */
final class Model {
    private static final int NONE = -1;

    /** The first wrong byte of a text. */
    private static final class Wrong extends Exception {
        private static final long serialVersionUID = 1L;
        final int at;

        Wrong(int at) {
            this.at = at;
        }
    }

    private interface Condition {
        boolean holds(TreeMap<String, Integer> facts);
    }

    private interface Sum {
        int of(TreeMap<String, Integer> facts);
    }

    private static final class Line {
        String verb = "";
        int number;
        String fact = "";
        Condition condition = facts -> true;
    }

    private static final class Sort {
        int card;
        int forgotten;
        int[] rates = new int[32];

        Sort copy() {
            Sort other = new Sort();
            other.card = card;
            other.forgotten = forgotten;
            other.rates = rates.clone();
            return other;
        }
    }

    private static final class State {
        int[][] chances = new int[32][34];
        int[] kicks = new int[8];
        int games;
        List<Line> goals;
        List<List<Line>> rules = new ArrayList<>();
        List<Sort> sorts = new ArrayList<>();
        int grace = 2;
        int horizon = 20;
        int minute;
        int score;
        int lost;
        int patience;

        State copy() {
            State other = new State();
            for (int state = 0; state < 32; state++) {
                other.chances[state] = chances[state].clone();
            }
            other.kicks = kicks.clone();
            other.games = games;
            other.goals = goals;
            other.rules = new ArrayList<>(rules);
            for (Sort sort : sorts) {
                other.sorts.add(sort.copy());
            }
            other.grace = grace;
            other.horizon = horizon;
            other.minute = minute;
            other.score = score;
            other.lost = lost;
            other.patience = patience;
            return other;
        }

        int chance(int state, int what) {
            return chances[state][what];
        }

        int stays(int state) {
            int left = 100;
            for (int what = 0; what < 34; what++) {
                left -= chance(state, what);
            }
            return left;
        }
    }

    private State now = new State();
    private State image;
    private StringBuilder tape = new StringBuilder();
    private int fault = NONE;

    // ---- texts ----

    private static final class Scanner {
        final String text;
        final boolean ofRules;
        int at;

        Scanner(String text, boolean ofRules) {
            this.text = text;
            this.ofRules = ofRules;
            blanks();
        }

        void blanks() {
            while (at < text.length() && text.charAt(at) == ' ') {
                at++;
            }
        }

        boolean done() {
            return at == text.length();
        }

        String peek() {
            int end = at;
            while (end < text.length() && text.charAt(end) >= 'a' && text.charAt(end) <= 'z') {
                end++;
            }
            if (end > at) {
                return text.substring(at, end);
            }
            while (end < text.length() && text.charAt(end) >= '0' && text.charAt(end) <= '9') {
                end++;
            }
            if (end > at) {
                return text.substring(at, end);
            }
            return done() ? "" : text.substring(at, at + 1);
        }

        boolean has(String thing) {
            if (!peek().equals(thing)) {
                return false;
            }
            at += thing.length();
            blanks();
            return true;
        }

        void must(String thing) throws Wrong {
            if (!has(thing)) {
                throw new Wrong(at);
            }
        }

        int number(int most) throws Wrong {
            String thing = peek();
            if (!thing.matches("[0-9]{1,4}") || Integer.parseInt(thing) > most) {
                throw new Wrong(at);
            }
            has(thing);
            return Integer.parseInt(thing);
        }

        String fact() throws Wrong {
            String facts = ofRules ? "zone|free|second|kick|minute|ahead|behind" : "minute|ahead|behind";
            String thing = peek();
            if (!thing.matches(facts)) {
                throw new Wrong(at);
            }
            has(thing);
            return thing;
        }

        Condition condition(int deep) throws Wrong {
            Condition one = all(deep);
            while (has("or")) {
                Condition left = one;
                Condition right = all(deep);
                one = facts -> left.holds(facts) || right.holds(facts);
            }
            return one;
        }

        Condition all(int deep) throws Wrong {
            Condition one = atom(deep);
            while (has("and")) {
                Condition left = one;
                Condition right = atom(deep);
                one = facts -> left.holds(facts) && right.holds(facts);
            }
            return one;
        }

        Condition atom(int deep) throws Wrong {
            int begin = at;
            if (has("not")) {
                if (deep == 6) {
                    throw new Wrong(begin);
                }
                Condition inner = atom(deep + 1);
                return facts -> !inner.holds(facts);
            }
            if (has("(")) {
                if (deep == 6) {
                    throw new Wrong(begin);
                }
                Condition inner = condition(deep + 1);
                must(")");
                return inner;
            }
            if (ofRules && has("late")) {
                return facts -> facts.get("late") == 1;
            }
            Sum left = sum();
            if (has("<")) {
                Sum right = sum();
                return facts -> left.of(facts) < right.of(facts);
            }
            must(">");
            Sum right = sum();
            return facts -> left.of(facts) > right.of(facts);
        }

        Sum sum() throws Wrong {
            Sum one = part();
            while (has("+")) {
                Sum left = one;
                Sum right = part();
                one = facts -> left.of(facts) + right.of(facts);
            }
            return one;
        }

        Sum part() throws Wrong {
            if (peek().matches("[0-9]+")) {
                int n = number(9999);
                return facts -> n;
            }
            String fact = fact();
            return facts -> facts.get(fact);
        }

        boolean more(int lines) throws Wrong {
            if (done()) {
                return false;
            }
            must(";");
            if (lines == 12) {
                throw new Wrong(at);
            }
            return true;
        }
    }

    private static void readGame(String text, State into) throws Wrong {
        Scanner scan = new Scanner(text, false);
        if (scan.done()) {
            return;
        }
        int lines = 0;
        do {
            if (scan.has("at")) {
                int state = 4 * scan.number(7) + scan.number(3);
                int what;
                if (scan.has("goal")) {
                    what = 32;
                } else if (scan.has("lost")) {
                    what = 33;
                } else {
                    scan.must("to");
                    what = 4 * scan.number(7) + scan.number(3);
                }
                into.chances[state][what] = scan.number(100);
            } else if (scan.has("kick")) {
                int zone = scan.number(7);
                into.kicks[zone] = scan.number(9999);
            } else {
                scan.must("even");
                into.grace = scan.number(10);
            }
            lines++;
        } while (scan.more(lines));
        for (int state = 0; state < 32; state++) {
            if (into.stays(state) < 0) {
                throw new Wrong(text.length());
            }
        }
    }

    private static List<Line> readLines(String text, boolean ofRules) throws Wrong {
        List<Line> lines = new ArrayList<>();
        Scanner scan = new Scanner(text, ofRules);
        if (scan.done()) {
            return lines;
        }
        do {
            Line line = new Line();
            line.verb = scan.peek();
            if (!line.verb.matches(ofRules ? "stop|play|wait" : "add|less")) {
                throw new Wrong(scan.at);
            }
            scan.has(line.verb);
            if (ofRules) {
                scan.must("if");
                line.condition = scan.condition(0);
            } else {
                line.number = scan.number(9999);
                if (scan.has("*")) {
                    line.fact = scan.fact();
                }
                if (scan.has("if")) {
                    line.condition = scan.condition(0);
                }
            }
            lines.add(line);
        } while (scan.more(lines.size()));
        return lines;
    }

    private String useTape() {
        String text = tape.toString();
        tape = new StringBuilder();
        return text;
    }

    int feed(int a, int b, int c, int d, int e) {
        if (tape.length() > 380) {
            return NONE;
        }
        for (int n : new int[] {a, b, c, d, e}) {
            tape.append((char) (n >>> 24)).append((char) (n >> 16 & 255));
            tape.append((char) (n >> 8 & 255)).append((char) (n & 255));
        }
        return tape.length();
    }

    boolean end(int n) {
        if (n < 0 || n > tape.length()) {
            return false;
        }
        tape.setLength(n);
        return true;
    }

    int game() {
        State next = now.copy();
        try {
            readGame(useTape(), next);
            fault = NONE;
        } catch (Wrong wrong) {
            fault = wrong.at;
            throw new IllegalArgumentException();
        }
        if (now.games == 12) {
            throw new UnsupportedOperationException();
        }
        now = next;
        return ++now.games;
    }

    int goals() {
        now.goals = readOrFault(false);
        return now.goals.size();
    }

    int rule() {
        List<Line> rule = readOrFault(true);
        if (now.rules.size() == 4) {
            throw new UnsupportedOperationException();
        }
        now.rules.add(rule);
        return 4 + now.rules.size();
    }

    private List<Line> readOrFault(boolean ofRules) {
        try {
            List<Line> lines = readLines(useTape(), ofRules);
            fault = NONE;
            return lines;
        } catch (Wrong wrong) {
            fault = wrong.at;
            throw new IllegalArgumentException();
        }
    }

    int fault() {
        return fault;
    }

    // ---- what is so ----

    private static void place(boolean there) {
        if (!there) {
            throw new IndexOutOfBoundsException();
        }
    }

    private static void number(int n, int least, int most) {
        if (n < least || n > most) {
            throw new IllegalArgumentException();
        }
    }

    private static void what(int n, int most) {
        if (n < 0 || n > most) {
            throw new NoSuchElementException();
        }
    }

    private static void state(int n) {
        place(n >= 0 && n < 32);
    }

    private static void zone(int n) {
        place(n >= 0 && n < 8);
    }

    private void sortThere(int n) {
        place(n >= 0 && n < now.sorts.size());
    }

    private void judgeThere(int n) {
        place(n >= 0 && n < 5 + now.rules.size());
    }

    private static void barOf(int judge, int bar) {
        if (judge == 2) {
            number(bar, 0, 31);
        }
    }

    int follows(int state, int what) {
        state(state);
        what(what, 34);
        return what == 34 ? now.stays(state) : now.chance(state, what);
    }

    int kick(int zone) {
        zone(zone);
        return now.kicks[zone];
    }

    void now(int minute, int score) {
        number(minute, 0, 90);
        number(score, -9, 9);
        now.minute = minute;
        now.score = score;
    }

    void lost(int n) {
        number(n, 0, 9999);
        now.lost = n;
    }

    void horizon(int n) {
        number(n, 1, 60);
        now.horizon = n;
    }

    void grace(int n) {
        number(n, 0, 10);
        now.grace = n;
    }

    int sort(int card, int forgotten) {
        number(card, 0, 9999);
        number(forgotten, 0, 100);
        if (now.sorts.size() == 6) {
            throw new UnsupportedOperationException();
        }
        Sort sort = new Sort();
        sort.card = card;
        sort.forgotten = forgotten;
        now.sorts.add(sort);
        return now.sorts.size() - 1;
    }

    void patience(int n) {
        number(n, 0, 99);
        now.patience = n;
    }

    int goal() {
        return goalAt(now.minute);
    }

    private TreeMap<String, Integer> factsAt(int minute) {
        TreeMap<String, Integer> facts = new TreeMap<>();
        facts.put("minute", minute);
        facts.put("ahead", now.score > 0 ? now.score : 0);
        facts.put("behind", now.score < 0 ? -now.score : 0);
        return facts;
    }

    private int goalAt(int minute) {
        if (now.goals == null) {
            return 10000;
        }
        TreeMap<String, Integer> facts = factsAt(minute);
        int told = 0;
        for (Line line : now.goals) {
            if (line.condition.holds(facts)) {
                int times = line.fact.isEmpty() ? 1 : facts.get(line.fact);
                told += (line.verb.equals("add") ? 1 : -1) * line.number * times;
            }
        }
        return told < 0 ? 0 : told > 30000 ? 30000 : told;
    }

    private int card(int sort) {
        Sort s = now.sorts.get(sort);
        if (now.patience == 0) {
            return s.card;
        }
        int rates = 0;
        for (int rate : s.rates) {
            rates += rate;
        }
        return s.card + rates / now.patience;
    }

    /** Letting on, and one judge before one foul; everything is reckoned when it is asked for. */
    private final class Case {
        Long[] onMemo = new Long[61 * 32];
        final Long[] aloneMemo = new Long[61 * 32];
        final Long[] watchedMemo = new Long[61 * 32];
        final Long[] worthMemo = new Long[11 * 32];
        final int[] deedMemo = new int[11 * 32];
        final int judge;
        final int bar;
        final int kick;
        final int card;
        final boolean late;
        final long after;
        final int minute;
        final int goal;
        int grace = now.grace;
        int plainZone;
        int plainFree;

        Case(int judge, int bar, int sort, int zone, int card, int minute) {
            this.judge = judge;
            this.bar = bar;
            this.kick = now.kicks[zone];
            this.card = card;
            this.late = now.sorts.get(sort).forgotten == 100;
            this.after = (long) card * (100 - now.sorts.get(sort).forgotten) / 100;
            this.minute = minute;
            this.goal = goalAt(minute);
        }

        long stop() {
            return kick + card;
        }

        long on(int state, int t) {
            if (t <= 0) {
                return 0;
            }
            if (onMemo[32 * t + state] == null) {
                long sum = (long) now.chance(state, 32) * goal - (long) now.chance(state, 33) * now.lost;
                sum += now.stays(state) * on(state, t - 1);
                for (int to = 0; to < 32; to++) {
                    if (now.chance(state, to) > 0) {
                        sum += now.chance(state, to) * on(to, t - 1);
                    }
                }
                onMemo[32 * t + state] = Math.floorDiv(sum, 100L);
            }
            return onMemo[32 * t + state];
        }

        private void reckon(int state, int j) {
            long on = on(state, now.horizon - j) + after;
            long wait = on;
            if (j < grace) {
                long sum = now.chance(state, 32) * (goal + after) + now.chance(state, 33) * stop();
                sum += now.stays(state) * worth(state, j + 1);
                for (int to = 0; to < 32; to++) {
                    if (now.chance(state, to) > 0) {
                        sum += now.chance(state, to) * worth(to, j + 1);
                    }
                }
                wait = Math.floorDiv(sum, 100L);
            }
            String wish = wish(state, j, on, wait);
            worthMemo[32 * j + state] = wish.equals("stop") ? stop() : wish.equals("play") ? on : wait;
            deedMemo[32 * j + state] = wish.equals("stop") ? 0 : wish.equals("play") || j == grace ? 1 : 2;
        }

        private String wish(int state, int j, long on, long wait) {
            switch (judge) {
                case -1: return state / 4 < plainZone || state % 4 < plainFree ? "stop" : "wait";
                case 0: return "stop";
                case 1: return "play";
                case 2: return state < bar ? "stop" : "wait";
                case 3:
                    long most = Math.max(stop(), Math.max(on, wait));
                    return stop() == most ? "stop" : on == most ? "play" : "wait";
                case 4: return j < grace ? "wait" : on > stop() ? "play" : "stop";
                default: return ruled(state, j);
            }
        }

        private String ruled(int state, int j) {
            TreeMap<String, Integer> facts = factsAt(minute);
            facts.put("zone", state / 4);
            facts.put("free", state % 4);
            facts.put("second", j);
            facts.put("kick", kick);
            facts.put("late", late ? 1 : 0);
            for (Line line : now.rules.get(judge - 5)) {
                if (line.condition.holds(facts)) {
                    return line.verb;
                }
            }
            return "wait";
        }

        long worth(int state, int j) {
            if (worthMemo[32 * j + state] == null) {
                reckon(state, j);
            }
            return worthMemo[32 * j + state];
        }

        int does(int state, int j) {
            worth(state, j);
            return deedMemo[32 * j + state];
        }

        boolean pays(int state) {
            return on(state, now.horizon) > worth(state, 0);
        }

        // Of one Case one what alone is asked for.
        long ends(int state, int j, boolean watched, int what) {
            int place = 32 * j + state;
            Long[] memo = watched ? watchedMemo : aloneMemo;
            if (memo[place] == null) {
                memo[place] = endsAnew(state, j, watched, what);
            }
            return memo[place];
        }

        private long endsAnew(int state, int j, boolean watched, int what) {
            if (watched && does(state, j) == 0) {
                return what == 0 ? 1000000 : 0;
            }
            boolean waits = watched && does(state, j) == 2;
            if (j == now.horizon) {
                return 0;
            }
            long sum = what == 1 ? now.chance(state, 32) * 1000000L : 0;
            sum += what == (waits ? 0 : 2) ? now.chance(state, 33) * 1000000L : 0;
            sum += now.stays(state) * ends(state, j + 1, waits, what);
            for (int to = 0; to < 32; to++) {
                if (now.chance(state, to) > 0) {
                    sum += now.chance(state, to) * ends(to, j + 1, waits, what);
                }
            }
            return sum / 100;
        }
    }

    private Case of(int judge, int bar, int sort, int zone) {
        return new Case(judge, bar, sort, zone, card(sort), now.minute);
    }

    long worth(int state, int t) {
        state(state);
        number(t, 0, 60);
        State before = now;
        now = now.copy();
        Sort any = new Sort();
        now.sorts.add(0, any);
        long worth = of(0, 0, 0, 0).on(state, t);
        now = before;
        return worth;
    }

    int stop(int sort, int zone, boolean after) {
        sortThere(sort);
        zone(zone);
        Case foul = of(0, 0, sort, zone);
        return (int) (after ? foul.after : foul.stop());
    }

    long judge(int judge, int bar, int sort, int zone, int state, int j) {
        return judged(judge, bar, sort, zone, state, j).worth(state, j);
    }

    int does(int judge, int bar, int sort, int zone, int state, int j) {
        return judged(judge, bar, sort, zone, state, j).does(state, j);
    }

    private Case judged(int judge, int bar, int sort, int zone, int state, int j) {
        judgeThere(judge);
        sortThere(sort);
        zone(zone);
        state(state);
        number(j, 0, now.grace);
        barOf(judge, bar);
        return of(judge, bar, sort, zone);
    }

    private long best(int grace, int sort, int zone, int state) {
        Case best = of(3, 0, sort, zone);
        best.grace = grace;
        return best.worth(state, 0);
    }

    long waits(int sort, int zone, int state) {
        sortThere(sort);
        zone(zone);
        state(state);
        return best(now.grace, sort, zone, state) - best(0, sort, zone, state);
    }

    int enough(int sort, int zone, int state) {
        sortThere(sort);
        zone(zone);
        state(state);
        int n = 0;
        while (best(n, sort, zone, state) < best(10, sort, zone, state)) {
            n++;
        }
        return n;
    }

    long loses(int judge, int bar, int sort, int zone, int state) {
        judgeThere(judge);
        sortThere(sort);
        zone(zone);
        place(state >= -1 && state < 32);
        barOf(judge, bar);
        return state == NONE ? lossTogether(of(judge, bar, sort, zone), sort, zone)
                : best(now.grace, sort, zone, state) - of(judge, bar, sort, zone).worth(state, 0);
    }

    private long lossTogether(Case judge, int sort, int zone) {
        Case best = of(3, 0, sort, zone);
        long together = 0;
        for (int state = 0; state < 32; state++) {
            together += best.worth(state, 0) - judge.worth(state, 0);
        }
        return together;
    }

    int part(int one, int other, int bar, int sort, int zone, boolean first) {
        judgeThere(one);
        judgeThere(other);
        sortThere(sort);
        zone(zone);
        barOf(one, bar);
        barOf(other, bar);
        Case oneCase = of(one, bar, sort, zone);
        Case otherCase = of(other, bar, sort, zone);
        List<Integer> places = new ArrayList<>();
        for (int j = 0; j <= now.grace; j++) {
            for (int state = 0; state < 32; state++) {
                if (oneCase.does(state, j) != otherCase.does(state, j)) {
                    places.add(32 * j + state);
                }
            }
        }
        return !first ? places.size() : places.isEmpty() ? NONE : places.get(0);
    }

    int bar(int sort, int zone) {
        sortThere(sort);
        zone(zone);
        int best = NONE;
        long least = 0;
        for (int b = 0; b < 32; b++) {
            long loss = lossTogether(of(2, b, sort, zone), sort, zone);
            if (best == NONE || loss < least) {
                best = b;
                least = loss;
            }
        }
        return best;
    }

    private boolean paysAt(int judge, int bar, int sort, int state, int card) {
        return new Case(judge, bar, sort, state / 4, card, now.minute).pays(state);
    }

    int pays(int judge, int bar, int sort) {
        judgeThere(judge);
        sortThere(sort);
        barOf(judge, bar);
        int bits = 0;
        for (int state = 0; state < 32; state++) {
            bits += paysAt(judge, bar, sort, state, card(sort)) ? 1 << state : 0;
        }
        return bits;
    }

    int least(int judge, int bar, int sort, int states) {
        judgeThere(judge);
        sortThere(sort);
        barOf(judge, bar);
        int more = card(sort) - now.sorts.get(sort).card;
        Long[] on = of(judge, bar, sort, 0).onMemo;
        for (int card = 0; card < 10000; card++) {
            boolean pays = false;
            for (int state = 0; state < 32 && !pays; state++) {
                if ((states >> state & 1) == 1) {
                    Case foul = new Case(judge, bar, sort, state / 4, card + more, now.minute);
                    foul.onMemo = on;
                    pays = foul.pays(state);
                }
            }
            if (!pays) {
                return card;
            }
        }
        return NONE;
    }

    int rate(int sort, int state, int n) {
        sortThere(sort);
        state(state);
        number(n, 0, 999);
        int before = now.sorts.get(sort).rates[state];
        now.sorts.get(sort).rates[state] = n;
        return before;
    }

    int often(int sort, int state) {
        sortThere(sort);
        state(state);
        return now.sorts.get(sort).rates[state];
    }

    long match(int judge, int bar, boolean stopped) {
        judgeThere(judge);
        barOf(judge, bar);
        long together = 0;
        for (int sort = 0; sort < now.sorts.size(); sort++) {
            for (int state = 0; state < 32; state++) {
                int rate = now.sorts.get(sort).rates[state];
                if (rate == 0) {
                    continue;
                }
                if (stopped) {
                    together += of(judge, bar, sort, state / 4).does(state, 0) == 0 ? rate : 0;
                } else {
                    for (int tens = 0; tens < 9; tens++) {
                        Case then = new Case(judge, bar, sort, state / 4, card(sort), 10 * tens);
                        together += rate * then.worth(state, 0);
                    }
                }
            }
        }
        return stopped ? together : Math.floorDiv(together, 9L);
    }

    int learn(int judge, int bar) {
        judgeThere(judge);
        barOf(judge, bar);
        State before = now.copy();
        for (int rounds = 0; rounds <= 60; rounds++) {
            boolean changed = false;
            for (int sort = 0; sort < now.sorts.size(); sort++) {
                int[] rates = now.sorts.get(sort).rates;
                for (int state = 0; state < 32; state++) {
                    int old = rates[state];
                    if (old > 0) {
                        boolean pays = paysAt(judge, bar, sort, state, card(sort));
                        rates[state] = pays ? Math.min(old + 1, 999) : old - 1;
                        changed |= rates[state] != old;
                    }
                }
            }
            if (!changed) {
                return rounds;
            }
        }
        now = before;
        return NONE;
    }

    long two(int first, int zone, int second, int itsZone, int state, boolean worth) {
        sortThere(first);
        zone(zone);
        sortThere(second);
        zone(itsZone);
        state(state);
        long one = of(3, 0, first, zone).stop();
        long other = of(3, 0, second, itsZone).stop();
        if (one > other) {
            return worth ? of(3, 0, first, zone).worth(state, 0) : 1;
        }
        return one == other ? 0 : worth ? -other : 2;
    }

    long leans(int first, int itsStops, int second, int otherStops, boolean all) {
        for (int n : new int[] {first, itsStops, second, otherStops}) {
            number(n, 0, 30);
        }
        number(itsStops, 0, first);
        number(otherStops, 0, second);
        int stops = itsStops + otherStops;
        BigInteger ways = BigInteger.ZERO;
        for (int i = all ? 0 : itsStops; i <= stops; i++) {
            ways = ways.add(choose(first, i).multiply(choose(second, stops - i)));
        }
        return ways.longValueExact();
    }

    private static BigInteger choose(int n, int k) {
        BigInteger[] row = new BigInteger[k + 1];
        for (int i = 0; i <= k; i++) {
            row[i] = i == 0 ? BigInteger.ONE : BigInteger.ZERO;
        }
        for (int line = 0; line < n; line++) {
            for (int i = k; i > 0; i--) {
                row[i] = row[i].add(row[i - 1]);
            }
        }
        return row[k];
    }

    private int seed;

    private int draw(int modulo) {
        seed = (int) ((1103515245L * seed + 12345L) & 0xffffffffL);
        return (int) ((((long) seed & 0xffffffffL) >> 16 & 0x7fff) % modulo);
    }

    private int playOut(Case foul, int begin) {
        int state = begin;
        boolean watched = true;
        int second = 0;
        while (true) {
            if (watched) {
                int deed = foul.does(state, second);
                if (deed == 0) {
                    return second;
                }
                watched = deed == 2;
            }
            if (second == now.horizon) {
                return 300 + second;
            }
            int draw = draw(100);
            second++;
            int next = 0;
            int below = now.chance(state, 0);
            while (next < 33 && draw >= below) {
                next++;
                below += now.chance(state, next);
            }
            if (draw < below && next == 32) {
                return 100 + second;
            }
            if (draw < below && next == 33) {
                return watched ? second : 200 + second;
            }
            state = draw < below ? next : state;
        }
    }

    int played(int judge, int bar, int sort, int zone, int state, int seed) {
        judgeThere(judge);
        sortThere(sort);
        zone(zone);
        state(state);
        barOf(judge, bar);
        this.seed = seed;
        return playOut(of(judge, bar, sort, zone), state);
    }

    int ends(int judge, int bar, int sort, int zone, int state, int what) {
        judgeThere(judge);
        sortThere(sort);
        zone(zone);
        state(state);
        barOf(judge, bar);
        what(what, 2);
        return (int) of(judge, bar, sort, zone).ends(state, 0, true, what);
    }

    long mean(int judge, int bar, int what) {
        judgeThere(judge);
        barOf(judge, bar);
        what(what, 2);
        long together = 0;
        for (int sort = 0; sort < now.sorts.size(); sort++) {
            for (int state = 0; state < 32; state++) {
                int rate = now.sorts.get(sort).rates[state];
                if (rate > 0) {
                    together += rate * of(judge, bar, sort, state / 4).ends(state, 0, true, what);
                }
            }
        }
        return together;
    }

    int plain(int sort, int zone) {
        sortThere(sort);
        zone(zone);
        long least = Long.MAX_VALUE;
        int found = NONE;
        for (int number = 84; number >= 0; number--) {
            if (number % 10 <= 4) {
                Case judge = of(-1, 0, sort, zone);
                judge.plainZone = number / 10;
                judge.plainFree = number % 10;
                long loss = lossTogether(judge, sort, zone);
                if (loss <= least) {
                    least = loss;
                    found = number;
                }
            }
        }
        return found;
    }

    int right(int judge, int bar, int sort, int zone) {
        judgeThere(judge);
        sortThere(sort);
        zone(zone);
        barOf(judge, bar);
        Case asked = of(judge, bar, sort, zone);
        Case best = of(3, 0, sort, zone);
        int bits = 0;
        for (int state = 0; state < 32; state++) {
            bits |= best.worth(state, 0) == asked.worth(state, 0) ? 1 << state : 0;
        }
        return bits;
    }

    long rest(int bar, int sort, int what) {
        sortThere(sort);
        number(bar, 0, 31);
        what(what, 4);
        int judges = 5 + now.rules.size();
        long[][] gains = new long[judges][32];
        for (int judge = 0; judge < judges; judge++) {
            for (int state = 0; state < 32; state++) {
                Case foul = of(judge, bar, sort, state / 4);
                gains[judge][state] = foul.on(state, now.horizon) - foul.worth(state, 0);
            }
        }
        int safe = NONE;
        long worst = 0;
        for (int judge = 0; judge < judges; judge++) {
            long greatest = gains[judge][0];
            for (long gain : gains[judge]) {
                greatest = Math.max(greatest, gain);
            }
            if (safe == NONE || greatest < worst) {
                safe = judge;
                worst = greatest;
            }
        }
        int shrewd = NONE;
        long best = 0;
        for (int state = 0; state < 32; state++) {
            long least = gains[0][state];
            for (int judge = 1; judge < judges; judge++) {
                least = Math.min(least, gains[judge][state]);
            }
            if (shrewd == NONE || least > best) {
                shrewd = state;
                best = least;
            }
        }
        return new long[] {safe, worst, shrewd, best, worst == best ? 1 : 0}[what];
    }

    int season(int judge, int bar, int many, int seed, int what) {
        judgeThere(judge);
        barOf(judge, bar);
        number(many, 1, 200);
        int all = count(9);
        number(all, 1, Integer.MAX_VALUE);
        what(what, 4);
        this.seed = seed;
        int[] told = new int[5];
        for (int n = 0; n < many; n++) {
            int draw = draw(all);
            int sort = 0;
            int state = 0;
            int below = now.sorts.get(0).rates[0];
            while (draw >= below) {
                state++;
                if (state == 32) {
                    sort++;
                    state = 0;
                }
                below += now.sorts.get(sort).rates[state];
            }
            int played = playOut(of(judge, bar, sort, state / 4), state);
            told[played / 100]++;
            told[4] += played % 100;
        }
        return told[what];
    }

    void image() {
        image = now.copy();
    }

    boolean back() {
        if (image == null) {
            return false;
        }
        now = image.copy();
        return true;
    }

    int count(int what) {
        int lively = 0;
        for (int state = 0; state < 32; state++) {
            for (int other = 0; other < 34; other++) {
                if (other != state && now.chance(state, other) > 0) {
                    lively++;
                    break;
                }
            }
        }
        int rates = 0;
        for (Sort sort : now.sorts) {
            for (int rate : sort.rates) {
                rates += rate;
            }
        }
        int[] counts = {now.games, now.goals == null ? 0 : now.goals.size(), now.rules.size(), now.sorts.size(),
            now.grace, now.horizon, now.minute, now.score, lively, rates};
        return what < 0 || what > 9 ? NONE : counts[what];
    }
}
