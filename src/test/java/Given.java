/** Objects to ask, and what a call throws. */
final class Given {
    static final String PLACE = "java.lang.IndexOutOfBoundsException";
    static final String NUMBER = "java.lang.IllegalArgumentException";
    static final String ROOM = "java.lang.UnsupportedOperationException";
    static final String WHAT = "java.util.NoSuchElementException";
    static final int LEAST = Integer.MIN_VALUE;
    static final int MOST = Integer.MAX_VALUE;

    static final int ALWAYS = 0;
    static final int NEVER = 1;
    static final int BAR = 2;
    static final int BEST = 3;
    static final int LAST = 4;
    static final int RULE = 5;

    private Given() {
    }

    interface Call {
        Object of(WhistleBook x) throws Exception;
    }

    interface Tell {
        void tell();
    }

    /** One that has these signs behind what its TAPE held. */
    static WhistleBook fed(WhistleBook x, String text) throws Exception {
        Check.feed(x::feed, x::end, text);
        return x;
    }

    static WhistleBook game(WhistleBook x, String text) throws Exception {
        fed(x, text).game();
        return x;
    }

    static WhistleBook game(String text) throws Exception {
        return game(new WhistleBook(), text);
    }

    static WhistleBook goals(WhistleBook x, String text) throws Exception {
        fed(x, text).goals();
        return x;
    }

    static WhistleBook rule(WhistleBook x, String text) throws Exception {
        fed(x, text).rule();
        return x;
    }

    static void due(String what, WhistleBook x, Call call, Object due) {
        Object number = due instanceof Integer ? (Object) (long) (Integer) due : due;
        Check.due(what, Check.answer(() -> call.of(x)), number);
    }

    /** "told", or what it throws. */
    static Object told(Tell tell) {
        return Check.answer(() -> {
            tell.tell();
            return "told";
        });
    }

    static String times(int n, String text) {
        return text.repeat(n);
    }

    static String lines(int n, String line) {
        return times(n - 1, line + ";") + line;
    }
}
