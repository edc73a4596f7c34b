import java.util.concurrent.Callable;

/** Counts what is not as it is due. */
final class Check {
    private static int asked;
    private static int wrong;

    private Check() {
    }

    static void due(String what, Object got, Object due) {
        asked++;
        if (!got.equals(due)) {
            wrong++;
            System.out.println(what + " answered " + got + ", due is " + due);
        }
    }

    /** What a call answers, a number of either kind as a long, or the exact class that it throws. */
    static Object answer(Callable<?> call) {
        try {
            Object answer = call.call();
            return answer instanceof Integer ? (Object) (long) (Integer) answer : answer;
        } catch (Exception thrown) {
            return thrown.getClass().getName();
        }
    }

    static void end(String test) {
        System.out.println(test + ": " + asked + " answers, " + wrong + " of them wrong");
        if (wrong != 0) {
            System.exit(1);
        }
    }

    /** Puts a text on the TAPE, which must be empty; every sign counts as the byte of its number. */
    static void feed(Feed tape, End cut, String text) throws Exception {
        for (int i = 0; i < text.length(); i += 20) {
            int[] fours = new int[5];
            for (int k = 0; k < 20; k++) {
                int b = i + k < text.length() ? text.charAt(i + k) & 255 : 0;
                fours[k / 4] = fours[k / 4] << 8 | b;
            }
            tape.feed(fours[0], fours[1], fours[2], fours[3], fours[4]);
        }
        cut.end(text.length());
    }

    interface Feed {
        int feed(int a, int b, int c, int d, int e) throws Exception;
    }

    interface End {
        boolean end(int n) throws Exception;
    }
}
