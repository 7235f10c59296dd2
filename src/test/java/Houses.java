/** Texts of houses that several tests use. */
final class Houses {
    private static final int FLOORS = 6;
    private static final int RODS = 10;

    /** Two floors by two rods; then the lower one hung from the upper one, whose nuts bear both: beyond what they can. */
    static final String TWO_DRAWINGS =
            "floor u weighs 100 can 60 stands 1;floor l weighs 100 can 60 stands 1;"
            + "drawing a;rod r from roof by u l can 200;rod s from roof by u l can 200;"
            + "drawing b;rod r from roof by u can 200;rod s from roof by u can 200;"
            + "rod t from u by l can 200;rod v from u by l can 200;";
    /** Drawing 0: 6 joints, none beyond; drawing 1: 8 joints, two beyond; drawing 2: no joints. */
    static final String WALK = TWO_DRAWINGS + "drawing c;";

    private Houses() {
    }

    static String floor(String name, int weighs, int can, int stands) {
        return "floor " + name + " weighs " + weighs + " can " + can + " stands " + stands + ";";
    }

    static String rod(String name, String from, String by, int can) {
        return "rod " + name + " from " + from + " by " + by + " can " + can + ";";
    }

    /** As many floors as there can be, a, b and so on, all alike. */
    static String sixFloors(int weighs, int can) {
        StringBuilder s = new StringBuilder();
        for (int f = 0; f < FLOORS; f++) {
            s.append(floor(letter(f), weighs, can, 9));
        }
        return s.toString();
    }

    /** Ten rods from the roof, each of which holds all six floors: as many joints as there can be. */
    static String tenRods(int can) {
        StringBuilder s = new StringBuilder("drawing d;");
        for (int r = 0; r < RODS; r++) {
            s.append(rod(letter(r), "roof", "a b c d e f", can));
        }
        return s.toString();
    }

    /** Six rods, by which each floor hangs from the one above it. */
    static String chain(int can) {
        StringBuilder s = new StringBuilder("drawing d;");
        for (int f = 0; f < FLOORS; f++) {
            s.append(rod(letter(f), f == 0 ? "roof" : letter(f - 1), letter(f), can));
        }
        return s.toString();
    }

    private static String letter(int number) {
        return "" + (char) ('a' + number);
    }
}
