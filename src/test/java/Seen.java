/**
 * All that can be asked of an object, as one text. Each part is asked of an object made anew in the same way, so that
 * none is asked more than 512 times.
 */
final class Seen {
    interface Maker {
        WhistleBook make() throws Exception;
    }

    private Seen() {
    }

    static String of(Maker maker) throws Exception {
        StringBuilder seen = new StringBuilder();
        numbers(maker.make(), seen);
        bytes(maker.make(), seen);
        for (int state = 0; state < 32; state += 8) {
            chances(maker.make(), state, seen);
        }
        fouls(maker.make(), seen);
        rules(maker.make(), seen);
        WhistleBook back = maker.make();
        seen.append(" back ").append(back.back());
        numbers(back, seen);
        return seen.toString();
    }

    /** How many bytes the TAPE has; it stays as it is, if it has more than 380, else it grows. */
    static int bytesOn(WhistleBook x) {
        int more = x.feed(0, 0, 0, 0, 0);
        if (more != WhistleBook.NONE) {
            return more - 20;
        }
        for (int n = 400; n > 380; n--) {
            if (x.end(n)) {
                return n;
            }
        }
        return WhistleBook.NONE;
    }

    private static void numbers(WhistleBook x, StringBuilder seen) {
        for (int what = 0; what < 10; what++) {
            seen.append(" count ").append(x.count(what));
        }
        for (int zone = 0; zone < 8; zone++) {
            seen.append(" kick ").append(x.kick(zone));
        }
        for (int sort = 0; sort < x.count(3); sort++) {
            for (int state = 0; state < 32; state++) {
                seen.append(" ").append(x.often(sort, state));
            }
        }
        seen.append(" goal ").append(x.goal()).append(" fault ").append(x.fault());
        seen.append(" bytes ").append(bytesOn(x));
    }

    private static void bytes(WhistleBook x, StringBuilder seen) {
        seen.append(" read ").append(Check.answer(x::game)).append(" ").append(x.fault());
        seen.append(" GRACE ").append(x.count(4));
    }

    private static void chances(WhistleBook x, int first, StringBuilder seen) {
        for (int state = first; state < first + 8; state++) {
            for (int what = 0; what < 35; what++) {
                seen.append(" ").append(x.follows(state, what));
            }
        }
    }

    private static void fouls(WhistleBook x, StringBuilder seen) {
        for (int sort = 0; sort < x.count(3); sort++) {
            for (int zone = 0; zone < 8; zone += 7) {
                seen.append(" stop ").append(x.stop(sort, zone, false)).append(" ").append(x.stop(sort, zone, true));
            }
        }
        for (int state = 0; state < 32; state++) {
            seen.append(" worth ").append(x.worth(state, 1)).append(" ").append(x.worth(state, x.count(5)));
        }
    }

    private static void rules(WhistleBook x, StringBuilder seen) {
        for (int judge = 5; judge < 5 + x.count(2) && x.count(3) > 0; judge++) {
            for (int state = 0; state < 32; state++) {
                seen.append(" ").append(x.does(judge, 0, 0, 7, state, 0));
            }
        }
    }
}
