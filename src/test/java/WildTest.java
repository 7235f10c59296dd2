/** Any arguments in any state: no call may throw, and one that answers NONE or false changes nothing. */
public final class WildTest {
    private static long seed = 7;

    private static final int[] WILD = {Integer.MIN_VALUE, Integer.MIN_VALUE + 1, -1000, -2, -1, 0, 1, 2, 3, 4, 5, 6, 7,
        9, 10, 11, 12, 15, 16, 20, 21, 31, 32, 33, 59, 60, 63, 64, 69, 70, 71, 99, 100, 101, 999, 1000, 1600, 1601,
        100000, Integer.MAX_VALUE - 1, Integer.MAX_VALUE};

    private static int any(int bound) {
        seed = seed * 6364136223846793005L + 1442695040888963407L;
        return (int) ((seed >>> 33) % bound);
    }

    private static int wild() {
        return any(3) == 0 ? any(4) : WILD[any(WILD.length)];
    }

    private static long call(HungFloors x, int which, int a, int b, int c, int d) {
        switch (which) {
            case 0: return x.feed(a, b, c, d, a);
            case 1: return x.end(a);
            case 2: return x.house();
            case 3: return x.fault(a);
            case 4: return x.live(a, b) ? 1 : 0;
            case 5: return x.move(a) ? 1 : 0;
            case 6: return x.joints(a);
            case 7: return x.joint(a, b, c);
            case 8: return x.bears(a, b, c);
            case 9: return x.weight(a, b, c);
            case 10: return x.beyond(a);
            case 11: return x.worst(a);
            case 12: return x.fall(a, b);
            case 13: return x.goes(a, b);
            case 14: return x.change(a, b, c);
            case 15: return x.weak();
            case 16: return x.floors(a, b);
            case 17: return x.mend(a, b);
            case 18: return x.odds(a, b, c, d);
            case 19: return x.most(a, b);
            case 20: return x.rule(a);
            case 21: return x.elsewhere(a, b);
            case 22: return x.story(a, b, c) ? 1 : 0;
            case 23: return x.believed(a, b);
            case 24: return x.paper(a, b, c, d, (a & 1) == 0);
            case 25: return x.untell(a) ? 1 : 0;
            case 26: return x.later(a);
            case 27: return x.spent(a, b, c, d);
            case 28: return x.saw(a, b, c);
            case 29: return x.hollow(a);
            default: return x.about(a);
        }
    }

    /** Ten rods on six floors in each drawing, as long as the text holds them. */
    private static String full() {
        StringBuilder s = new StringBuilder();
        for (char c = 'a'; c <= 'f'; c++) {
            s.append("floor ").append(c).append(" weighs ").append(any(1000)).append(" can ").append(1 + any(9999))
                    .append(" stands ").append(any(10)).append(";");
        }
        for (char d = 'a'; d <= 'd'; d++) {
            s.append("drawing ").append(d).append(";");
            for (char r = 'a'; r <= 'j' && s.length() < 1560; r++) {
                int from = any(6) - 1;
                s.append("rod ").append(r).append(" from ").append(from < 0 ? "roof" : "" + (char) ('a' + from));
                s.append(" by");
                for (int f = from + 1; f < 6; f++) {
                    if (f == 5 || any(3) > 0) {
                        s.append(" ").append((char) ('a' + f));
                    }
                }
                s.append(" can").append(1 + any(9999)).append(";");
            }
        }
        return s.toString();
    }

    /** What can be seen of an object without changing it. */
    private static String seen(HungFloors x) {
        StringBuilder s = new StringBuilder();
        for (int what = 0; what < 16; what++) {
            s.append(x.about(what)).append(' ');
        }
        for (int k = 0; k < 3; k++) {
            s.append(x.hollow(k)).append(' ').append(x.believed(0, k)).append(' ').append(x.believed(1, k)).append(' ');
        }
        for (int d = 0; d < 4; d++) {
            s.append(x.joints(d)).append(' ').append(x.beyond(d)).append(' ').append(x.bears(d, 0, 0)).append(' ');
        }
        return s.toString();
    }

    private static boolean changes(int which, long answer) {
        boolean setter = which <= 2 || which == 4 || which == 5 || which == 22 || which >= 24 && which <= 26;
        boolean yesOrNo = which == 4 || which == 5 || which == 22 || which == 25;
        return setter && answer >= (yesOrNo ? 1 : 0);
    }

    public static void main(String[] args) {
        for (int run = 0; run < 300; run++) {
            HungFloors x = new HungFloors();
            if (run % 4 != 0) {
                Check.tell(x, full());
            }
            for (int i = 0; i < 400; i++) {
                int which = any(31);
                int a = wild(), b = wild(), c = wild(), d = wild();
                String before = seen(x);
                String what = "run " + run + " call " + which + " of " + a + " " + b + " " + c + " " + d;
                try {
                    long answer = call(x, which, a, b, c, d);
                    Check.due(what + " does not answer below NONE", answer >= -1, true);
                    if (!changes(which, answer)) {
                        Check.due(what + " changes nothing", seen(x).equals(before), true);
                        long again = call(x, which, a, b, c, d);
                        Check.due(what + " again", again, answer);
                    }
                } catch (RuntimeException | Error e) {
                    System.out.println(what + " threw " + e);
                    Check.due(what, -9, 0);
                }
            }
        }
        Check.finish();
    }
}
