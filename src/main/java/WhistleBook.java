import java.util.NoSuchElementException;

/**
 * A whistle between the teeth. The words of the document (../shared/DOC.md) are kept in the names:
 * a STATE is 4 ZONE and FREE, a second behind the FOUL is j, DOES is 0 stops, 1 lets on, 2 waits.
 */
public final class WhistleBook {
    public static final int NONE = -1;

    private static final int ZONES = 8;
    private static final int FREES = 4;
    private static final int STATES = 32;
    private static final int GOAL = 32;
    private static final int LOST = 33;
    private static final int STAYS = 34;
    private static final int SORTS = 6;
    private static final int RULES = 4;
    private static final int TEXTS = 12;
    private static final int LINES = 12;
    private static final int TAPE = 400;
    private static final int DEEPEST = 6;

    private static final int LAST_MINUTE = 90;
    private static final int MOST_SCORE = 9;
    private static final int MOST_SECONDS = 60;
    private static final int MOST_GRACE = 10;
    private static final int MOST_WORTH = 9999;
    private static final int MOST_GOAL_WORTH = 30000;
    private static final int UNTOLD_GOAL_WORTH = 10000;
    private static final int MOST_PATIENCE = 99;
    private static final int MOST_RATE = 999;
    private static final int MOST_ROUNDS = 60;
    private static final int MOST_FOULS = 30;
    private static final int MOST_SEASON = 200;
    private static final int HUNDRED = 100;
    private static final int MILLION = 1000000;

    private static final int ALWAYS = 0;
    private static final int NEVER = 1;
    private static final int BAR = 2;
    private static final int BEST = 3;
    private static final int LAST = 4;
    private static final int FIRST_RULE = 5;
    private static final int PLAIN = -1;

    private static final int STOPS = 0;
    private static final int LETS_ON = 1;
    private static final int WAITS = 2;

    private static final int CAME_STOP = 0;
    private static final int CAME_GOAL = 1;
    private static final int CAME_LOST = 2;
    private static final int CAME_NOTHING = 3;
    private static final int ALL_SECONDS = 4;

    // FACTS by number; what GOALS may not name comes ahead of MINUTE, and LATE is a TAG, as 1 or 0.
    private static final int ZONE = 0;
    private static final int FREE = 1;
    private static final int SECOND = 2;
    private static final int KICK = 3;
    private static final int MINUTE = 4;
    private static final int AHEAD = 5;
    private static final int BEHIND = 6;
    private static final int LATE = 7;

    // Cells of a condition: below FACT a number, from it on a FACT, from PLUS on what joins those ahead.
    private static final int FACT = 10000;
    private static final int PLUS = 10010;
    private static final int BELOW = 10011;
    private static final int ABOVE = 10012;
    private static final int NOT = 10013;
    private static final int AND = 10014;
    private static final int OR = 10015;

    private final Tape tape;
    private final Text text;
    private final Book book;
    private final Book kept;
    private boolean imageKept;
    private final Bench bench;
    private final Lesson lesson;
    private final Course course;
    private final Rest rest;

    public WhistleBook() {
        tape = new Tape();
        text = new Text(tape);
        book = new Book();
        kept = new Book();
        bench = new Bench(book);
        lesson = new Lesson(book, bench);
        course = new Course(book, bench);
        rest = new Rest(book, bench);
    }

    public int feed(int a, int b, int c, int d, int e) {
        if (tape.length + 20 > TAPE) {
            return NONE;
        }
        tape.add(a);
        tape.add(b);
        tape.add(c);
        tape.add(d);
        tape.add(e);
        return tape.length;
    }

    public boolean end(int n) {
        if (!within(n, tape.length)) {
            return false;
        }
        tape.length = n;
        return true;
    }

    public int game() throws IllegalArgumentException, UnsupportedOperationException {
        boolean right = text.readGame(book);
        tape.length = 0;
        requireNumber(right);
        requireRoom(book.games < TEXTS);
        book.copy(text.draft);
        book.games++;
        return book.games;
    }

    public int goals() throws IllegalArgumentException {
        boolean right = text.read(Text.OF_GOALS);
        tape.length = 0;
        requireNumber(right);
        book.goals = text.made();
        book.goalsTold = true;
        return book.goals.lines;
    }

    public int rule() throws IllegalArgumentException, UnsupportedOperationException {
        boolean right = text.read(Text.OF_RULES);
        tape.length = 0;
        requireNumber(right);
        requireRoom(book.ruleCount < RULES);
        return FIRST_RULE + book.addRule(text.made());
    }

    public int fault() {
        return text.fault;
    }

    public int follows(int state, int what) throws IndexOutOfBoundsException, NoSuchElementException {
        requirePlace(isState(state));
        requireWhat(what, STAYS);
        return what == STAYS ? HUNDRED - book.chancesTogether(state) : book.chance(state, what);
    }

    public int kick(int zone) throws IndexOutOfBoundsException {
        requirePlace(isZone(zone));
        return Row.at(book.kicks, zone);
    }

    public void now(int minute, int score) throws IllegalArgumentException {
        requireNumber(within(minute, LAST_MINUTE) && score >= -MOST_SCORE && score <= MOST_SCORE);
        book.minute = minute;
        book.score = score;
    }

    public int goal() {
        return bench.goalWorthAt(book.minute);
    }

    public void lost(int n) throws IllegalArgumentException {
        requireNumber(within(n, MOST_WORTH));
        book.lostWorth = n;
    }

    public void horizon(int n) throws IllegalArgumentException {
        requireNumber(n != 0 && within(n, MOST_SECONDS));
        book.seconds = n;
    }

    public void grace(int n) throws IllegalArgumentException {
        requireNumber(within(n, MOST_GRACE));
        book.graceSeconds = n;
    }

    public int sort(int card, int forgotten) throws IllegalArgumentException, UnsupportedOperationException {
        requireNumber(within(card, MOST_WORTH) && within(forgotten, HUNDRED));
        requireRoom(book.sorts < SORTS);
        return book.addSort(card, forgotten);
    }

    public void patience(int n) throws IllegalArgumentException {
        requireNumber(within(n, MOST_PATIENCE));
        book.patienceTold = n;
    }

    public long worth(int state, int t) throws IndexOutOfBoundsException, IllegalArgumentException {
        requirePlace(isState(state));
        requireNumber(within(t, MOST_SECONDS));
        bench.open(book.minute, t);
        return bench.lettingOn(state, t);
    }

    public int stop(int sort, int zone, boolean after) throws IndexOutOfBoundsException {
        requireFoul(sort, zone);
        int card = book.cardNow(sort);
        return after ? book.afterwards(sort, card) : book.stopWorth(zone, card);
    }

    public long judge(int judge, int bar, int sort, int zone, int state, int j)
            throws IndexOutOfBoundsException, IllegalArgumentException {
        requireJudge(judge);
        requireFoul(sort, zone);
        requirePlace(isState(state));
        requireNumber(within(j, book.graceSeconds) && isBarFor(judge, bar));
        seat(judge, bar, sort, zone);
        return bench.worthAt(j, state);
    }

    public int does(int judge, int bar, int sort, int zone, int state, int j)
            throws IndexOutOfBoundsException, IllegalArgumentException {
        requireJudge(judge);
        requireFoul(sort, zone);
        requirePlace(isState(state));
        requireNumber(within(j, book.graceSeconds) && isBarFor(judge, bar));
        seat(judge, bar, sort, zone);
        return bench.deedAt(j, state);
    }

    public long waits(int sort, int zone, int state) throws IndexOutOfBoundsException {
        requireFoul(sort, zone);
        requirePlace(isState(state));
        bench.open(book.minute, book.seconds);
        bench.seat(BEST, 0);
        return (long) bestBy(book.graceSeconds, sort, zone, state) - bestBy(0, sort, zone, state);
    }

    public int enough(int sort, int zone, int state) throws IndexOutOfBoundsException {
        requireFoul(sort, zone);
        requirePlace(isState(state));
        bench.open(book.minute, book.seconds);
        bench.seat(BEST, 0);
        int most = bestBy(MOST_GRACE, sort, zone, state);
        for (int n = 0; n < MOST_GRACE; n++) {
            if (bestBy(n, sort, zone, state) == most) {
                return n;
            }
        }
        return MOST_GRACE;
    }

    public long loses(int judge, int bar, int sort, int zone, int state)
            throws IndexOutOfBoundsException, IllegalArgumentException {
        requireJudge(judge);
        requireFoul(sort, zone);
        requirePlace(state == NONE || isState(state));
        requireNumber(isBarFor(judge, bar));
        int first = state == NONE ? 0 : state;
        int last = state == NONE ? STATES - 1 : state;
        seat(BEST, 0, sort, zone);
        int best = bench.worthTogether(first, last);
        seat(judge, bar, sort, zone);
        return (long) best - bench.worthTogether(first, last);
    }

    public int part(int one, int other, int bar, int sort, int zone, boolean first)
            throws IndexOutOfBoundsException, IllegalArgumentException {
        requireJudge(one);
        requireJudge(other);
        requireFoul(sort, zone);
        requireNumber(isBarFor(one, bar) && isBarFor(other, bar));
        seat(one, bar, sort, zone);
        bench.keepDeeds();
        seat(other, bar, sort, zone);
        return first ? bench.firstOtherDeed() : bench.otherDeeds();
    }

    public int bar(int sort, int zone) throws IndexOutOfBoundsException {
        requireFoul(sort, zone);
        bench.open(book.minute, book.seconds);
        int best = NONE;
        int most = 0;
        for (int b = 0; b < STATES; b++) {
            bench.seat(BAR, b);
            bench.lay(sort, zone, book.cardNow(sort));
            int together = bench.worthTogether(0, STATES - 1);
            if (best == NONE || together > most) {
                most = together;
                best = b;
            }
        }
        return best;
    }

    public int pays(int judge, int bar, int sort) throws IndexOutOfBoundsException, IllegalArgumentException {
        requireJudge(judge);
        requirePlace(isSort(sort));
        requireNumber(isBarFor(judge, bar));
        bench.open(book.minute, book.seconds);
        bench.seat(judge, bar);
        return bench.paying(sort, book.cardNow(sort), -1);
    }

    public int least(int judge, int bar, int sort, int states)
            throws IndexOutOfBoundsException, IllegalArgumentException {
        requireJudge(judge);
        requirePlace(isSort(sort));
        requireNumber(isBarFor(judge, bar));
        bench.open(book.minute, book.seconds);
        bench.seat(judge, bar);
        return leastCard(sort, states);
    }

    public int rate(int sort, int state, int n) throws IndexOutOfBoundsException, IllegalArgumentException {
        requirePlace(isSort(sort) && isState(state));
        requireNumber(within(n, MOST_RATE));
        int before = book.rateOf(sort, state);
        book.setRate(sort, state, n);
        return before;
    }

    public int often(int sort, int state) throws IndexOutOfBoundsException {
        requirePlace(isSort(sort) && isState(state));
        return book.rateOf(sort, state);
    }

    public long match(int judge, int bar, boolean stopped)
            throws IndexOutOfBoundsException, IllegalArgumentException {
        requireJudge(judge);
        requireNumber(isBarFor(judge, bar));
        bench.seat(judge, bar);
        if (stopped) {
            bench.open(book.minute, book.seconds);
            return matchSum(true);
        }
        long together = 0;
        for (int minute = 0; minute <= 80; minute += 10) {
            bench.open(minute, book.seconds);
            together += matchSum(false);
        }
        return Math.floorDiv(together, 9L);
    }

    public int learn(int judge, int bar) throws IndexOutOfBoundsException, IllegalArgumentException {
        requireJudge(judge);
        requireNumber(isBarFor(judge, bar));
        bench.open(book.minute, book.seconds);
        bench.seat(judge, bar);
        lesson.begin();
        for (int round = 0; round <= MOST_ROUNDS; round++) {
            if (!lesson.roundChanges()) {
                return round;
            }
        }
        lesson.undo();
        return NONE;
    }

    public long two(int first, int zone, int second, int itsZone, int state, boolean worth)
            throws IndexOutOfBoundsException {
        requireFoul(first, zone);
        requireFoul(second, itsZone);
        requirePlace(isState(state));
        int one = book.stopWorth(zone, book.cardNow(first));
        int other = book.stopWorth(itsZone, book.cardNow(second));
        if (one == other) {
            return 0;
        }
        if (one < other) {
            return worth ? -other : 2;
        }
        if (!worth) {
            return 1;
        }
        seat(BEST, 0, first, zone);
        return bench.worthAt(0, state);
    }

    public long leans(int first, int itsStops, int second, int otherStops, boolean all)
            throws IllegalArgumentException {
        requireNumber(within(first, MOST_FOULS) && within(itsStops, first));
        requireNumber(within(second, MOST_FOULS) && within(otherStops, second));
        int stops = itsStops + otherStops;
        if (all) {
            return waysOf(first + second, stops);
        }
        long together = 0;
        for (int on = itsStops; on <= first && on <= stops; on++) {
            together += waysOf(first, on) * waysOf(second, stops - on);
        }
        return together;
    }

    public int played(int judge, int bar, int sort, int zone, int state, int seed)
            throws IndexOutOfBoundsException, IllegalArgumentException {
        requireJudge(judge);
        requireFoul(sort, zone);
        requirePlace(isState(state));
        requireNumber(isBarFor(judge, bar));
        seat(judge, bar, sort, zone);
        course.seed = seed;
        course.playFrom(state);
        return HUNDRED * course.came + course.draws;
    }

    public int ends(int judge, int bar, int sort, int zone, int state, int what)
            throws IndexOutOfBoundsException, IllegalArgumentException, NoSuchElementException {
        requireJudge(judge);
        requireFoul(sort, zone);
        requirePlace(isState(state));
        requireNumber(isBarFor(judge, bar));
        requireWhat(what, CAME_LOST);
        seat(judge, bar, sort, zone);
        course.ask(what);
        course.share();
        return course.shareFrom(state);
    }

    public long mean(int judge, int bar, int what)
            throws IndexOutOfBoundsException, IllegalArgumentException, NoSuchElementException {
        requireJudge(judge);
        requireNumber(isBarFor(judge, bar));
        requireWhat(what, CAME_LOST);
        bench.open(book.minute, book.seconds);
        bench.seat(judge, bar);
        course.ask(what);
        long together = 0;
        for (int sort = 0; sort < book.sorts; sort++) {
            for (int zone = 0; zone < ZONES; zone++) {
                together += meanOf(sort, zone);
            }
        }
        return together;
    }

    public int plain(int sort, int zone) throws IndexOutOfBoundsException {
        requireFoul(sort, zone);
        bench.open(book.minute, book.seconds);
        int best = NONE;
        int most = 0;
        for (int z = 0; z <= ZONES; z++) {
            for (int f = 0; f <= FREES; f++) {
                bench.seatPlain(z, f);
                bench.lay(sort, zone, book.cardNow(sort));
                int together = bench.worthTogether(0, STATES - 1);
                if (best == NONE || together > most) {
                    most = together;
                    best = 10 * z + f;
                }
            }
        }
        return best;
    }

    public int right(int judge, int bar, int sort, int zone)
            throws IndexOutOfBoundsException, IllegalArgumentException {
        requireJudge(judge);
        requireFoul(sort, zone);
        requireNumber(isBarFor(judge, bar));
        seat(judge, bar, sort, zone);
        bench.keepWorths();
        seat(BEST, 0, sort, zone);
        return bench.statesAsKept();
    }

    public long rest(int bar, int sort, int what)
            throws IndexOutOfBoundsException, IllegalArgumentException, NoSuchElementException {
        requirePlace(isSort(sort));
        requireNumber(isState(bar));
        requireWhat(what, 4);
        bench.open(book.minute, book.seconds);
        rest.weigh(bar, sort);
        switch (what) {
            case 0: return rest.safe;
            case 1: return rest.worst;
            case 2: return rest.shrewd;
            case 3: return rest.best;
            default: return rest.worst == rest.best ? 1 : 0;
        }
    }

    public int season(int judge, int bar, int many, int seed, int what)
            throws IndexOutOfBoundsException, IllegalArgumentException, NoSuchElementException {
        requireJudge(judge);
        int all = book.ratesTogether();
        requireNumber(isBarFor(judge, bar) && many >= 1 && many <= MOST_SEASON && all > 0);
        requireWhat(what, ALL_SECONDS);
        bench.open(book.minute, book.seconds);
        bench.seat(judge, bar);
        course.seed = seed;
        int told = 0;
        for (int n = 0; n < many; n++) {
            int place = book.rateHolding(course.draw(all));
            int sort = place / STATES;
            int state = place % STATES;
            bench.lay(sort, state / FREES, book.cardNow(sort));
            course.playFrom(state);
            if (what == ALL_SECONDS) {
                told += course.draws;
            } else if (what == course.came) {
                told++;
            }
        }
        return told;
    }

    public void image() {
        kept.copy(book);
        imageKept = true;
    }

    public boolean back() {
        if (!imageKept) {
            return false;
        }
        book.copy(kept);
        return true;
    }

    public int count(int what) {
        switch (what) {
            case 0: return book.games;
            case 1: return book.goals.lines;
            case 2: return book.ruleCount;
            case 3: return book.sorts;
            case 4: return book.graceSeconds;
            case 5: return book.seconds;
            case 6: return book.minute;
            case 7: return book.score;
            case 8: return book.livelyStates();
            case 9: return book.ratesTogether();
            default: return NONE;
        }
    }

    private static void requirePlace(boolean there) {
        if (!there) {
            throw new IndexOutOfBoundsException();
        }
    }

    private static void requireNumber(boolean fits) {
        if (!fits) {
            throw new IllegalArgumentException();
        }
    }

    private static void requireRoom(boolean left) {
        if (!left) {
            throw new UnsupportedOperationException();
        }
    }

    private static void requireWhat(int what, int last) {
        if (!within(what, last)) {
            throw new NoSuchElementException();
        }
    }

    private void requireJudge(int judge) {
        requirePlace(judge >= 0 && judge < FIRST_RULE + book.ruleCount);
    }

    private void requireFoul(int sort, int zone) {
        requirePlace(isSort(sort) && isZone(zone));
    }

    private static boolean within(int n, int last) {
        return n >= 0 && n <= last;
    }

    private static boolean isState(int state) {
        return state >= 0 && state < STATES;
    }

    private static boolean isZone(int zone) {
        return zone >= 0 && zone < ZONES;
    }

    private boolean isSort(int sort) {
        return sort >= 0 && sort < book.sorts;
    }

    private static boolean isBarFor(int judge, int bar) {
        return judge != BAR || isState(bar);
    }

    private void seat(int judge, int bar, int sort, int zone) {
        bench.open(book.minute, book.seconds);
        bench.seat(judge, bar);
        bench.lay(sort, zone, book.cardNow(sort));
    }

    private int bestBy(int grace, int sort, int zone, int state) {
        bench.grace = grace;
        bench.lay(sort, zone, book.cardNow(sort));
        return bench.worthAt(0, state);
    }

    // No JUDGE's worth falls when a CARD grows, so the least one that is enough is found by halving.
    private int leastCard(int sort, int states) {
        int more = book.cardNow(sort) - Row.at(book.cards, sort);
        if (bench.paying(sort, MOST_WORTH + more, states) != 0) {
            return NONE;
        }
        int low = 0;
        int high = MOST_WORTH;
        for (int step = 0; step < 14 && low < high; step++) {
            int middle = (low + high) / 2;
            if (bench.paying(sort, middle + more, states) == 0) {
                high = middle;
            } else {
                low = middle + 1;
            }
        }
        return high;
    }

    private long matchSum(boolean stopped) {
        long together = 0;
        for (int sort = 0; sort < book.sorts; sort++) {
            int card = book.cardNow(sort);
            for (int zone = 0; zone < ZONES; zone++) {
                if (book.anyRate(sort, zone)) {
                    bench.lay(sort, zone, card);
                    together += stopped ? bench.stoppedRates(sort, zone) : bench.ratedWorth(sort, zone);
                }
            }
        }
        return together;
    }

    private long meanOf(int sort, int zone) {
        if (!book.anyRate(sort, zone)) {
            return 0;
        }
        bench.lay(sort, zone, book.cardNow(sort));
        course.share();
        long together = 0;
        for (int state = FREES * zone; state < FREES * (zone + 1); state++) {
            together += (long) book.rateOf(sort, state) * course.shareFrom(state);
        }
        return together;
    }

    // Multiplied ahead of dividing nothing is lost: each step is a whole number of ways, below 2 to the 62.
    private static long waysOf(int all, int many) {
        long found = 1;
        for (int i = 0; i < many; i++) {
            found = found * (all - i) / (i + 1);
        }
        return found;
    }

    /** Rows that are looked at and written only where they have a place. */
    private static final class Row {
        static int at(int[] row, int i) {
            return i >= 0 && i < row.length ? row[i] : 0;
        }

        static void put(int[] row, int i, int n) {
            if (i >= 0 && i < row.length) {
                row[i] = n;
            }
        }

        static void copy(int[] from, int[] to) {
            for (int i = 0; i < from.length && i < to.length; i++) {
                to[i] = from[i];
            }
        }
    }

    /** All words that a text may have, the FACTS with their numbers. */
    private enum Word {
        NO_WORD("", NONE), AT("at", NONE), TO("to", NONE), GOAL("goal", NONE), LOST("lost", NONE),
        EVEN("even", NONE), ADD("add", NONE), LESS("less", NONE), IF("if", NONE), STOP("stop", NONE),
        PLAY("play", NONE), WAIT("wait", NONE), OR("or", NONE), AND("and", NONE), NOT("not", NONE),
        LATE("late", NONE), ZONE("zone", WhistleBook.ZONE), FREE("free", WhistleBook.FREE),
        SECOND("second", WhistleBook.SECOND), KICK("kick", WhistleBook.KICK),
        MINUTE("minute", WhistleBook.MINUTE), AHEAD("ahead", WhistleBook.AHEAD),
        BEHIND("behind", WhistleBook.BEHIND);

        private static final Word[] ALL = values();

        private final String letters;
        private final int fact;

        Word(String letters, int fact) {
            this.letters = letters;
            this.fact = fact;
        }

        static Word of(int[] bytes, int from, int end) {
            for (int i = 0; i < ALL.length; i++) {
                if (ALL[i].stands(bytes, from, end)) {
                    return ALL[i];
                }
            }
            return NO_WORD;
        }

        private boolean stands(int[] bytes, int from, int end) {
            if (end - from != letters.length()) {
                return false;
            }
            for (int i = 0; i < letters.length(); i++) {
                if (Row.at(bytes, from + i) != letters.charAt(i)) {
                    return false;
                }
            }
            return true;
        }
    }

    /**
     * The bytes that were fed and not yet used up, and the things (words, numbers, signs) that they make.
     * Of the thing at which one is: where it begins, and what it is; at the end it is nothing, and begins there.
     */
    private static final class Tape {
        private final int[] bytes = new int[TAPE];
        private int length;

        private final int[] begins = new int[TAPE + 1];
        private final int[] numbers = new int[TAPE + 1];
        private final int[] signs = new int[TAPE + 1];
        private final Word[] words = new Word[TAPE + 1];
        private int things;

        private int at;
        private int begin;
        private int number;
        private int sign;
        private Word word = Word.NO_WORD;

        void add(int four) {
            for (int shift = 24; shift >= 0; shift -= 8) {
                Row.put(bytes, length, (four >>> shift) & 255);
                length++;
            }
        }

        void findThings() {
            things = 0;
            int i = 0;
            // A blank has one byte, a thing one at least: there are no more of them than bytes.
            for (int n = 0; n < TAPE && i < length; n++) {
                if (Row.at(bytes, i) == ' ') {
                    i++;
                } else {
                    int end = endOfThing(i);
                    addThing(i, end);
                    i = end;
                }
            }
            addThing(length, length);
            at = -1;
            next();
        }

        private int endOfThing(int from) {
            int end = from + 1;
            if (isLetter(Row.at(bytes, from))) {
                while (end < length && isLetter(Row.at(bytes, end))) {
                    end++;
                }
            } else if (isDigit(Row.at(bytes, from))) {
                while (end < length && isDigit(Row.at(bytes, end))) {
                    end++;
                }
            }
            return end;
        }

        private void addThing(int from, int end) {
            int first = from < end ? Row.at(bytes, from) : 0;
            boolean ofDigits = isDigit(first);
            boolean ofLetters = isLetter(first);
            Row.put(begins, things, from);
            Row.put(numbers, things, ofDigits && end - from <= 4 ? numberOf(from, end) : NONE);
            Row.put(signs, things, ofDigits || ofLetters ? 0 : first);
            if (things >= 0 && things < words.length) {
                words[things] = ofLetters ? Word.of(bytes, from, end) : Word.NO_WORD;
            }
            things++;
        }

        private int numberOf(int from, int end) {
            int n = 0;
            for (int i = from; i < end; i++) {
                n = 10 * n + Row.at(bytes, i) - '0';
            }
            return n;
        }

        private static boolean isLetter(int b) {
            return b >= 'a' && b <= 'z';
        }

        private static boolean isDigit(int b) {
            return b >= '0' && b <= '9';
        }

        void next() {
            if (at + 1 < things) {
                at++;
            }
            if (at >= 0 && at < begins.length && at < numbers.length && at < signs.length && at < words.length) {
                begin = begins[at];
                number = numbers[at];
                sign = signs[at];
                word = words[at] == null ? Word.NO_WORD : words[at];
            }
        }

        boolean atEnd() {
            return begin >= length;
        }
    }

    /** Reads the TAPE as a text and knows its first wrong byte. A GAME text goes into a draft. */
    private static final class Text {
        private static final int OF_GAME = 0;
        private static final int OF_GOALS = 1;
        private static final int OF_RULES = 2;

        private final Tape tape;
        private final Book draft = new Book();
        private final int[] heads = new int[Code.HEAD * LINES];
        private final int[] cells = new int[TAPE];
        private int size;
        private int lines;
        private boolean ofRules;
        private int fault = NONE;

        Text(Tape tape) {
            this.tape = tape;
        }

        boolean readGame(Book before) {
            draft.copy(before);
            if (!read(OF_GAME)) {
                return false;
            }
            for (int state = 0; state < STATES; state++) {
                if (draft.chancesTogether(state) > HUNDRED) {
                    return wrong();
                }
            }
            return true;
        }

        boolean read(int language) {
            tape.findThings();
            fault = NONE;
            size = 0;
            lines = 0;
            ofRules = language == OF_RULES;
            if (tape.atEnd()) {
                return true;
            }
            for (int n = 0; n < LINES; n++) {
                boolean right = language == OF_GAME ? readGameLine()
                        : language == OF_GOALS ? readGoalLine() : readRuleLine();
                if (!right) {
                    return false;
                }
                lines = n + 1;
                if (tape.atEnd()) {
                    return true;
                }
                if (!takeSign(';')) {
                    return false;
                }
            }
            return wrong();
        }

        /** What the GOALS or the RULE say that were read. */
        Code made() {
            return new Code(lines, heads, size, cells);
        }

        private boolean wrong() {
            fault = tape.begin;
            return false;
        }

        private boolean takeWord(Word word) {
            if (tape.word != word) {
                return wrong();
            }
            tape.next();
            return true;
        }

        private boolean takeSign(char sign) {
            if (tape.sign != sign) {
                return wrong();
            }
            tape.next();
            return true;
        }

        private int takeNumber(int most) {
            int taken = tape.number;
            if (taken < 0 || taken > most) {
                wrong();
                return NONE;
            }
            tape.next();
            return taken;
        }

        private boolean readGameLine() {
            Word first = tape.word;
            if (first != Word.AT && first != Word.KICK && first != Word.EVEN) {
                return wrong();
            }
            tape.next();
            return first == Word.AT ? readChance() : first == Word.KICK ? readKick() : readGrace();
        }

        private boolean readChance() {
            int state = takeState();
            if (state == NONE) {
                return false;
            }
            int what = tape.word == Word.GOAL ? GOAL : tape.word == Word.LOST ? LOST : NONE;
            if (what != NONE) {
                tape.next();
            } else if (takeWord(Word.TO)) {
                what = takeState();
            }
            int chance = what == NONE ? NONE : takeNumber(HUNDRED);
            if (chance == NONE) {
                return false;
            }
            draft.setChance(state, what, chance);
            return true;
        }

        private int takeState() {
            int zone = takeNumber(ZONES - 1);
            int free = zone == NONE ? NONE : takeNumber(FREES - 1);
            return free == NONE ? NONE : FREES * zone + free;
        }

        private boolean readKick() {
            int zone = takeNumber(ZONES - 1);
            int worth = zone == NONE ? NONE : takeNumber(MOST_WORTH);
            if (worth == NONE) {
                return false;
            }
            Row.put(draft.kicks, zone, worth);
            return true;
        }

        private boolean readGrace() {
            int seconds = takeNumber(MOST_GRACE);
            if (seconds == NONE) {
                return false;
            }
            draft.graceSeconds = seconds;
            return true;
        }

        private boolean readRuleLine() {
            int deed = tape.word == Word.STOP ? STOPS
                    : tape.word == Word.PLAY ? LETS_ON
                    : tape.word == Word.WAIT ? WAITS : NONE;
            if (deed == NONE) {
                return wrong();
            }
            tape.next();
            int begin = size;
            if (!takeWord(Word.IF) || !readCondition(0)) {
                return false;
            }
            setHead(deed, NONE, begin);
            return true;
        }

        private boolean readGoalLine() {
            boolean adds = tape.word == Word.ADD;
            if (!adds && tape.word != Word.LESS) {
                return wrong();
            }
            tape.next();
            int number = takeNumber(MOST_WORTH);
            if (number == NONE) {
                return false;
            }
            int factor = NONE;
            if (tape.sign == '*') {
                tape.next();
                factor = factHere();
                if (factor == NONE) {
                    return wrong();
                }
                tape.next();
            }
            int begin = size;
            if (tape.word == Word.IF) {
                tape.next();
                if (!readCondition(0)) {
                    return false;
                }
            }
            setHead(adds ? number : -number, factor, begin);
            return true;
        }

        private void setHead(int told, int factor, int begin) {
            int head = Code.HEAD * lines;
            Row.put(heads, head, told);
            Row.put(heads, head + 1, factor);
            Row.put(heads, head + 2, begin);
            Row.put(heads, head + 3, size);
        }

        private boolean readCondition(int deep) {
            if (!readAll(deep)) {
                return false;
            }
            for (int n = 0; n < TAPE && tape.word == Word.OR; n++) {
                tape.next();
                if (!readAll(deep)) {
                    return false;
                }
                addCell(OR);
            }
            return true;
        }

        private boolean readAll(int deep) {
            if (!readAtom(deep)) {
                return false;
            }
            for (int n = 0; n < TAPE && tape.word == Word.AND; n++) {
                tape.next();
                if (!readAtom(deep)) {
                    return false;
                }
                addCell(AND);
            }
            return true;
        }

        private boolean readAtom(int deep) {
            if (tape.word == Word.NOT || tape.sign == '(') {
                return readDeeper(deep + 1);
            }
            if (ofRules && tape.word == Word.LATE) {
                tape.next();
                addCell(FACT + LATE);
                return true;
            }
            if (!readSum()) {
                return false;
            }
            boolean below = tape.sign == '<';
            if (!below && tape.sign != '>') {
                return wrong();
            }
            tape.next();
            if (!readSum()) {
                return false;
            }
            addCell(below ? BELOW : ABOVE);
            return true;
        }

        private boolean readDeeper(int deep) {
            if (deep > DEEPEST) {
                return wrong();
            }
            boolean negated = tape.word == Word.NOT;
            tape.next();
            if (!negated) {
                return readCondition(deep) && takeSign(')');
            }
            if (!readAtom(deep)) {
                return false;
            }
            addCell(NOT);
            return true;
        }

        private boolean readSum() {
            for (int n = 0; n < TAPE; n++) {
                int fact = factHere();
                int cell = fact == NONE ? tape.number : FACT + fact;
                if (cell == NONE) {
                    return wrong();
                }
                tape.next();
                addCell(cell);
                if (n > 0) {
                    addCell(PLUS);
                }
                if (tape.sign != '+') {
                    return true;
                }
                tape.next();
            }
            return wrong();
        }

        private int factHere() {
            int fact = tape.word.fact;
            return ofRules || fact >= MINUTE ? fact : NONE;
        }

        private void addCell(int cell) {
            if (size >= 0 && size < cells.length) {
                cells[size] = cell;
                size++;
            }
        }
    }

    /**
     * LINES ready to be reckoned. Of each a head: what it tells (to do, or a number), the FACT that this is
     * taken times, where the cells of its condition begin and end (none of them: it always holds).
     */
    private static final class Code {
        private static final int HEAD = 4;

        private final int lines;
        private final int[] heads;
        private final int[] cells;

        Code(int lines, int[] heads, int size, int[] cells) {
            this.lines = lines;
            this.heads = new int[Math.max(0, HEAD * lines)];
            this.cells = new int[Math.max(0, size)];
            Row.copy(heads, this.heads);
            Row.copy(cells, this.cells);
        }

        Code() {
            lines = 0;
            heads = new int[0];
            cells = new int[0];
        }

        int deed(int[] facts, int[] stack) {
            for (int line = 0; line < lines; line++) {
                if (holds(line, facts, stack)) {
                    return Row.at(heads, HEAD * line);
                }
            }
            return WAITS;
        }

        int total(int[] facts, int[] stack) {
            int together = 0;
            for (int line = 0; line < lines; line++) {
                if (holds(line, facts, stack)) {
                    int factor = Row.at(heads, HEAD * line + 1);
                    together += Row.at(heads, HEAD * line) * (factor == NONE ? 1 : Row.at(facts, factor));
                }
            }
            return together;
        }

        private boolean holds(int line, int[] facts, int[] stack) {
            int begin = Row.at(heads, HEAD * line + 2);
            int end = Row.at(heads, HEAD * line + 3);
            int top = NONE;
            for (int i = begin; i < end; i++) {
                int cell = Row.at(cells, i);
                if (cell < PLUS) {
                    top++;
                    Row.put(stack, top, cell < FACT ? cell : Row.at(facts, cell - FACT));
                } else if (cell == NOT) {
                    Row.put(stack, top, 1 - Row.at(stack, top));
                } else {
                    top--;
                    Row.put(stack, top, joined(cell, Row.at(stack, top), Row.at(stack, top + 1)));
                }
            }
            return begin >= end || Row.at(stack, 0) != 0;
        }

        private static int joined(int cell, int left, int right) {
            switch (cell) {
                case PLUS: return left + right;
                case BELOW: return left < right ? 1 : 0;
                case ABOVE: return left > right ? 1 : 0;
                case AND: return left & right;
                default: return left | right;
            }
        }
    }

    /** All that THE IMAGE holds. */
    private static final class Book {
        // A STATE's chances of MOVES, GOAL and LOST; what it stays is what is left.
        private static final int WHATS = 34;

        private final int[] chances = new int[STATES * WHATS];
        private final int[] kicks = new int[ZONES];
        private final int[] cards = new int[SORTS];
        private final int[] forgotten = new int[SORTS];
        private final int[] rates = new int[SORTS * STATES];
        private final Code blank = new Code();
        private final Code[] rules = new Code[RULES];
        private Code goals = blank;
        private boolean goalsTold;
        private int games;
        private int ruleCount;
        private int sorts;
        private int graceSeconds = 2;
        private int seconds = 20;
        private int minute;
        private int score;
        private int lostWorth;
        private int patienceTold;

        void copy(Book other) {
            Row.copy(other.chances, chances);
            Row.copy(other.kicks, kicks);
            Row.copy(other.cards, cards);
            Row.copy(other.forgotten, forgotten);
            Row.copy(other.rates, rates);
            for (int i = 0; i < rules.length && i < other.rules.length; i++) {
                rules[i] = other.rules[i];
            }
            goals = other.goals;
            goalsTold = other.goalsTold;
            games = other.games;
            ruleCount = other.ruleCount;
            sorts = other.sorts;
            graceSeconds = other.graceSeconds;
            seconds = other.seconds;
            minute = other.minute;
            score = other.score;
            lostWorth = other.lostWorth;
            patienceTold = other.patienceTold;
        }

        int chance(int state, int what) {
            return Row.at(chances, WHATS * state + what);
        }

        void setChance(int state, int what, int n) {
            Row.put(chances, WHATS * state + what, n);
        }

        int chancesTogether(int state) {
            int together = 0;
            for (int what = 0; what < WHATS; what++) {
                together += chance(state, what);
            }
            return together;
        }

        int livelyStates() {
            int lively = 0;
            for (int state = 0; state < STATES; state++) {
                if (chancesTogether(state) > chance(state, state)) {
                    lively++;
                }
            }
            return lively;
        }

        int addRule(Code rule) {
            int number = ruleCount;
            if (number >= 0 && number < rules.length) {
                rules[number] = rule;
                ruleCount++;
            }
            return number;
        }

        Code ruleOf(int number) {
            if (number < 0 || number >= rules.length || rules[number] == null) {
                return blank;
            }
            return rules[number];
        }

        int addSort(int card, int forgottenShare) {
            int number = sorts;
            Row.put(cards, number, card);
            Row.put(forgotten, number, forgottenShare);
            sorts++;
            return number;
        }

        int cardNow(int sort) {
            int card = Row.at(cards, sort);
            return patienceTold > 0 ? card + ratesOf(sort) / patienceTold : card;
        }

        int stopWorth(int zone, int card) {
            return Row.at(kicks, zone) + card;
        }

        int afterwards(int sort, int card) {
            return card * (HUNDRED - Row.at(forgotten, sort)) / HUNDRED;
        }

        int rateOf(int sort, int state) {
            return Row.at(rates, STATES * sort + state);
        }

        void setRate(int sort, int state, int n) {
            Row.put(rates, STATES * sort + state, n);
        }

        boolean anyRate(int sort, int zone) {
            for (int state = FREES * zone; state < FREES * (zone + 1); state++) {
                if (rateOf(sort, state) > 0) {
                    return true;
                }
            }
            return false;
        }

        private int ratesOf(int sort) {
            int together = 0;
            for (int state = 0; state < STATES; state++) {
                together += rateOf(sort, state);
            }
            return together;
        }

        int ratesTogether() {
            int together = 0;
            for (int sort = 0; sort < sorts; sort++) {
                together += ratesOf(sort);
            }
            return together;
        }

        /** Where a number below all RATES together falls: 32 times the SORT and the STATE. */
        int rateHolding(int drawn) {
            int together = 0;
            for (int place = 0; place < rates.length; place++) {
                together += rates[place];
                if (drawn < together) {
                    return place;
                }
            }
            return 0;
        }
    }

    /** The chances without those that are 0, so that a second is reckoned in few steps. */
    private static final class Ways {
        // Each LINE of each GAME text tells one MOVE at most.
        private final int[] to = new int[TEXTS * LINES];
        private final int[] chance = new int[TEXTS * LINES];
        private final int[] first = new int[STATES + 1];
        private final int[] goalChance = new int[STATES];
        private final int[] lostChance = new int[STATES];
        private final int[] stayChance = new int[STATES];

        void read(Book book) {
            int n = 0;
            for (int state = 0; state < STATES; state++) {
                Row.put(first, state, n);
                for (int other = 0; other < STATES; other++) {
                    int moves = book.chance(state, other);
                    if (moves > 0) {
                        Row.put(to, n, other);
                        Row.put(chance, n, moves);
                        n++;
                    }
                }
                Row.put(goalChance, state, book.chance(state, GOAL));
                Row.put(lostChance, state, book.chance(state, LOST));
                Row.put(stayChance, state, HUNDRED - book.chancesTogether(state));
            }
            Row.put(first, STATES, n);
        }

        /** By chances from a STATE; what the STATES tell a second later stands in the row from base on. */
        int mix(int state, int[] row, int base, int ifGoal, int ifLost) {
            int sum = Row.at(goalChance, state) * ifGoal + Row.at(lostChance, state) * ifLost
                    + Row.at(stayChance, state) * Row.at(row, base + state);
            int end = Row.at(first, state + 1);
            for (int i = Row.at(first, state); i < end; i++) {
                sum += Row.at(chance, i) * Row.at(row, base + Row.at(to, i));
            }
            return Math.floorDiv(sum, HUNDRED);
        }

        /** What follows by a DRAW of 0 to 99: a STATE, GOAL or LOST. */
        int drawn(int state, int draw) {
            int together = 0;
            int end = Row.at(first, state + 1);
            for (int i = Row.at(first, state); i < end; i++) {
                together += Row.at(chance, i);
                if (draw < together) {
                    return Row.at(to, i);
                }
            }
            together += Row.at(goalChance, state);
            if (draw < together) {
                return GOAL;
            }
            return draw < together + Row.at(lostChance, state) ? LOST : state;
        }
    }

    /**
     * Where one JUDGE decides on one FOUL: it is opened for a minute, a JUDGE is seated, a FOUL is laid
     * before it; from then on the worth and the deed of every second and STATE are known.
     */
    private static final class Bench {
        private final Book book;
        private final Ways ways = new Ways();
        private final int[] facts = new int[LATE + 1];
        // 6 deep, with an or, an and and a SUM open on each level, some 20 cells lie on it.
        private final int[] stack = new int[32];
        private final int[] letting = new int[(MOST_SECONDS + 1) * STATES];
        private final int[] worths = new int[(MOST_GRACE + 1) * STATES];
        private final int[] deeds = new int[(MOST_GRACE + 1) * STATES];
        private final int[] keptRow = new int[(MOST_GRACE + 1) * STATES];
        private int judge;
        private int bar;
        private int plainZone;
        private int plainFree;
        private int grace;
        private int goalWorth;
        private int stopWorth;
        private int after;

        Bench(Book book) {
            this.book = book;
        }

        int goalWorthAt(int minute) {
            Row.put(facts, MINUTE, minute);
            Row.put(facts, AHEAD, Math.max(0, book.score));
            Row.put(facts, BEHIND, Math.max(0, -book.score));
            if (!book.goalsTold) {
                return UNTOLD_GOAL_WORTH;
            }
            return Math.max(0, Math.min(MOST_GOAL_WORTH, book.goals.total(facts, stack)));
        }

        void open(int minute, int seconds) {
            goalWorth = goalWorthAt(minute);
            grace = book.graceSeconds;
            ways.read(book);
            // Nobody writes the row of 0 seconds left: it is 0 from the beginning.
            for (int t = 1; t <= seconds; t++) {
                for (int state = 0; state < STATES; state++) {
                    int on = ways.mix(state, letting, (t - 1) * STATES, goalWorth, -book.lostWorth);
                    Row.put(letting, t * STATES + state, on);
                }
            }
        }

        int lettingOn(int state, int t) {
            return Row.at(letting, Math.max(0, t) * STATES + state);
        }

        void seat(int number, int itsBar) {
            judge = number;
            bar = itsBar;
        }

        void seatPlain(int zone, int free) {
            judge = PLAIN;
            plainZone = zone;
            plainFree = free;
        }

        void lay(int sort, int zone, int card) {
            stopWorth = book.stopWorth(zone, card);
            after = book.afterwards(sort, card);
            Row.put(facts, KICK, Row.at(book.kicks, zone));
            Row.put(facts, LATE, Row.at(book.forgotten, sort) == HUNDRED ? 1 : 0);
            for (int j = grace; j >= 0; j--) {
                for (int state = 0; state < STATES; state++) {
                    decide(j, state);
                }
            }
        }

        private void decide(int j, int state) {
            int on = lettingOn(state, book.seconds - j) + after;
            int waiting = on;
            if (j < grace) {
                waiting = ways.mix(state, worths, (j + 1) * STATES, goalWorth + after, stopWorth);
            }
            int deed = wish(j, state, on, waiting);
            if (judge >= FIRST_RULE) {
                Row.put(facts, ZONE, state / FREES);
                Row.put(facts, FREE, state % FREES);
                Row.put(facts, SECOND, j);
                deed = book.ruleOf(judge - FIRST_RULE).deed(facts, stack);
            }
            if (deed == WAITS && j >= grace) {
                deed = LETS_ON;
            }
            Row.put(deeds, j * STATES + state, deed);
            Row.put(worths, j * STATES + state, deed == STOPS ? stopWorth : deed == LETS_ON ? on : waiting);
        }

        private int wish(int j, int state, int on, int waiting) {
            switch (judge) {
                case ALWAYS:
                    return STOPS;
                case NEVER:
                    return LETS_ON;
                case BAR:
                    return state >= bar ? WAITS : STOPS;
                case BEST:
                    return stopWorth >= on && stopWorth >= waiting ? STOPS : on >= waiting ? LETS_ON : WAITS;
                case LAST:
                    return j < grace ? WAITS : stopWorth >= on ? STOPS : LETS_ON;
                case PLAIN:
                    return state / FREES < plainZone || state % FREES < plainFree ? STOPS : WAITS;
                default:
                    return WAITS;
            }
        }

        int worthAt(int j, int state) {
            return Row.at(worths, j * STATES + state);
        }

        int deedAt(int j, int state) {
            return Row.at(deeds, j * STATES + state);
        }

        int worthTogether(int firstState, int lastState) {
            int together = 0;
            for (int state = firstState; state <= lastState; state++) {
                together += worthAt(0, state);
            }
            return together;
        }

        void keepDeeds() {
            Row.copy(deeds, keptRow);
        }

        void keepWorths() {
            Row.copy(worths, keptRow);
        }

        int otherDeeds() {
            int others = 0;
            for (int place = 0; place < (grace + 1) * STATES; place++) {
                if (Row.at(deeds, place) != Row.at(keptRow, place)) {
                    others++;
                }
            }
            return others;
        }

        int firstOtherDeed() {
            for (int place = 0; place < (grace + 1) * STATES; place++) {
                if (Row.at(deeds, place) != Row.at(keptRow, place)) {
                    return place;
                }
            }
            return NONE;
        }

        int statesAsKept() {
            int bits = 0;
            for (int state = 0; state < STATES; state++) {
                if (worthAt(0, state) == Row.at(keptRow, state)) {
                    bits |= 1 << state;
                }
            }
            return bits;
        }

        /** What playing on at a STATE is worth more than the FOUL that lies here: it pays, if above 0. */
        int gain(int state) {
            return lettingOn(state, book.seconds) - worthAt(0, state);
        }

        /** Of the STATES told as bits those at which a FOUL in their ZONE pays, by that CARD. */
        int paying(int sort, int card, int states) {
            int bits = 0;
            for (int state = 0; state < STATES; state++) {
                int zone = state / FREES;
                if (state % FREES == 0 && ((states >>> state) & 15) != 0) {
                    lay(sort, zone, card);
                }
                if (((states >>> state) & 1) != 0 && gain(state) > 0) {
                    bits |= 1 << state;
                }
            }
            return bits;
        }

        long ratedWorth(int sort, int zone) {
            long together = 0;
            for (int state = FREES * zone; state < FREES * (zone + 1); state++) {
                together += (long) book.rateOf(sort, state) * worthAt(0, state);
            }
            return together;
        }

        long stoppedRates(int sort, int zone) {
            long together = 0;
            for (int state = FREES * zone; state < FREES * (zone + 1); state++) {
                together += deedAt(0, state) == STOPS ? book.rateOf(sort, state) : 0;
            }
            return together;
        }
    }

    /** LEARNING. What does not pay by a CARD pays by no greater one: so the bench is asked little. */
    private static final class Lesson {
        // Above 9999 and all RATES of a SORT together.
        private static final int ABOVE_ALL_CARDS = 100000;

        private final Book book;
        private final Bench bench;
        private final int[] before = new int[SORTS * STATES];
        private final int[] paysUpTo = new int[SORTS * STATES];
        private final int[] failsFrom = new int[SORTS * STATES];

        Lesson(Book book, Bench bench) {
            this.book = book;
            this.bench = bench;
        }

        void begin() {
            Row.copy(book.rates, before);
            for (int place = 0; place < SORTS * STATES; place++) {
                Row.put(paysUpTo, place, NONE);
                Row.put(failsFrom, place, ABOVE_ALL_CARDS);
            }
        }

        void undo() {
            Row.copy(before, book.rates);
        }

        boolean roundChanges() {
            boolean changes = false;
            for (int sort = 0; sort < book.sorts; sort++) {
                for (int state = 0; state < STATES; state++) {
                    int rate = book.rateOf(sort, state);
                    if (rate > 0) {
                        int next = isWorthIt(sort, state) ? Math.min(MOST_RATE, rate + 1) : rate - 1;
                        book.setRate(sort, state, next);
                        changes |= next != rate;
                    }
                }
            }
            return changes;
        }

        private boolean isWorthIt(int sort, int state) {
            int card = book.cardNow(sort);
            int place = STATES * sort + state;
            if (card <= Row.at(paysUpTo, place)) {
                return true;
            }
            if (card >= Row.at(failsFrom, place)) {
                return false;
            }
            bench.lay(sort, state / FREES, card);
            boolean found = bench.gain(state) > 0;
            Row.put(found ? paysUpTo : failsFrom, place, card);
            return found;
        }
    }

    /** How the FOUL that lies on the bench goes on: in millionths, or by DRAWS. */
    private static final class Course {
        private final Book book;
        private final Bench bench;
        private final int[] alone = new int[(MOST_SECONDS + 1) * STATES];
        private final int[] watched = new int[(MOST_GRACE + 1) * STATES];
        private int ifStopped;
        private int ifGoal;
        private int ifLost;
        private int seed;
        private int came;
        private int draws;

        Course(Book book, Bench bench) {
            this.book = book;
            this.bench = bench;
        }

        /** What is asked for; once a JUDGE has let on for good, that is the same for all FOULS. */
        void ask(int what) {
            ifStopped = what == CAME_STOP ? MILLION : 0;
            ifGoal = what == CAME_GOAL ? MILLION : 0;
            ifLost = what == CAME_LOST ? MILLION : 0;
            for (int left = 1; left <= book.seconds; left++) {
                for (int state = 0; state < STATES; state++) {
                    int share = bench.ways.mix(state, alone, (left - 1) * STATES, ifGoal, ifLost);
                    Row.put(alone, left * STATES + state, share);
                }
            }
        }

        void share() {
            for (int j = Math.min(bench.grace, book.seconds); j >= 0; j--) {
                for (int state = 0; state < STATES; state++) {
                    Row.put(watched, j * STATES + state, shareAt(j, state));
                }
            }
        }

        private int shareAt(int j, int state) {
            int deed = bench.deedAt(j, state);
            if (deed == STOPS) {
                return ifStopped;
            }
            int left = book.seconds - j;
            if (deed == LETS_ON) {
                return Row.at(alone, left * STATES + state);
            }
            // A ball that is LOST while the JUDGE waits is stopped.
            return left > 0 ? bench.ways.mix(state, watched, (j + 1) * STATES, ifGoal, ifStopped) : 0;
        }

        int shareFrom(int state) {
            return Row.at(watched, state);
        }

        int draw(int all) {
            seed = 1103515245 * seed + 12345;
            int bits = (seed >>> 16) & 32767;
            return all > 0 ? bits % all : 0;
        }

        void playFrom(int begin) {
            int state = begin;
            boolean watching = true;
            came = CAME_NOTHING;
            for (int second = 0; second <= book.seconds; second++) {
                draws = second;
                int deed = watching ? bench.deedAt(second, state) : LETS_ON;
                if (deed == STOPS) {
                    came = CAME_STOP;
                    return;
                }
                watching = deed == WAITS;
                if (second == book.seconds) {
                    return;
                }
                state = bench.ways.drawn(state, draw(HUNDRED));
                if (state >= STATES) {
                    draws = second + 1;
                    came = state == GOAL ? CAME_GOAL : watching ? CAME_STOP : CAME_LOST;
                    return;
                }
            }
        }
    }

    /** JUDGES against STATES: the JUDGE that is safe, and the STATE that is shrewd. */
    private static final class Rest {
        private final Book book;
        private final Bench bench;
        private final int[] leastGains = new int[STATES];
        private int safe;
        private int worst;
        private int shrewd;
        private int best;

        Rest(Book book, Bench bench) {
            this.book = book;
            this.bench = bench;
        }

        void weigh(int bar, int sort) {
            for (int judge = 0; judge < FIRST_RULE + book.ruleCount; judge++) {
                bench.seat(judge, bar);
                int itsWorst = worstOfSeated(sort, judge == 0);
                if (judge == 0 || itsWorst < worst) {
                    worst = itsWorst;
                    safe = judge;
                }
            }
            for (int state = 0; state < STATES; state++) {
                if (state == 0 || Row.at(leastGains, state) > best) {
                    best = Row.at(leastGains, state);
                    shrewd = state;
                }
            }
        }

        private int worstOfSeated(int sort, boolean first) {
            int greatest = 0;
            for (int state = 0; state < STATES; state++) {
                if (state % FREES == 0) {
                    bench.lay(sort, state / FREES, book.cardNow(sort));
                }
                int gain = bench.gain(state);
                greatest = state == 0 ? gain : Math.max(greatest, gain);
                Row.put(leastGains, state, first ? gain : Math.min(Row.at(leastGains, state), gain));
            }
            return greatest;
        }
    }
}
