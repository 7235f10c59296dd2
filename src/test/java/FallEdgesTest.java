/** What falls, what changes, mending, odds, most, rule, elsewhere (promises 14 to 16, 19 to 23): each boundary. */
public final class FallEdgesTest {
    private static final int MIN = Integer.MIN_VALUE;
    private static final int MAX = Integer.MAX_VALUE;
    private static final int[] NO_WHAT = {-1, -2, 2, 3, MIN, MAX};
    private static final int[] NO_DRAWING = {-1, 3, 4, MIN, MAX};

    private static void due(String call, long got, long want) {
        Check.due(call, got, want);
    }

    /** Three drawings, people, a paper: drawing 1 is beyond, drawing 2 has no rods. */
    private static HungFloors walk() {
        HungFloors x = Check.of(Houses.WALK);
        x.live(1, 2);
        x.move(3);
        x.paper(1, 2, 1, 5, true);
        return x;
    }

    private static String floor(String name, int weighs, int can) {
        return Houses.floor(name, weighs, can, 1);
    }

    private static String rod(String name, String from, String by, int can) {
        return Houses.rod(name, from, by, can);
    }

    private static void falls(String text, int fallen, int... went) {
        HungFloors x = Check.of(text);
        int before = x.beyond(0);
        due("fall(0, 0) of " + text, x.fall(0, 0), fallen);
        due("fall(0, 1) of " + text, x.fall(0, 1), went.length);
        for (int i = 0; i < went.length; i++) {
            due("goes(0, " + i + ") of " + text, x.goes(0, i), went[i]);
        }
        due("goes no further: " + text, x.goes(0, went.length), -1);
        due("the drawing is whole still: " + text, x.beyond(0), before);
    }

    /** "NONE if there is no such DRAWING, or for another what"; "NONE if there is none such." */
    private static void fallRefused() {
        for (int what : NO_WHAT) {
            Seen.leavesAll("fall(1, " + what + ")", FallEdgesTest::walk, x -> x.fall(1, what), -1);
        }
        for (int d : NO_DRAWING) {
            Seen.leavesAll("fall(" + d + ", 0)", FallEdgesTest::walk, x -> x.fall(d, 0), -1);
            Seen.leavesAll("fall(" + d + ", 1)", FallEdgesTest::walk, x -> x.fall(d, 1), -1);
            Seen.leavesAll("goes(" + d + ", 0)", FallEdgesTest::walk, x -> x.goes(d, 0), -1);
        }
        for (int i : new int[] {-1, 2, 3, 70, MIN, MAX}) {
            Seen.leavesAll("goes(1, " + i + ")", FallEdgesTest::walk, x -> x.goes(1, i), -1);
        }
        Seen.leavesAll("goes(0, 0), where nothing goes", FallEdgesTest::walk, x -> x.goes(0, 0), -1);
        Seen.leavesAll("goes(2, 0), without rods", FallEdgesTest::walk, x -> x.goes(2, 0), -1);
        Seen.leavesAll("fall(1, 0)", FallEdgesTest::walk, x -> x.fall(1, 0), 3);
        Seen.leavesAll("fall(1, 1)", FallEdgesTest::walk, x -> x.fall(1, 1), 2);
        Seen.leavesAll("goes(1, 1)", FallEdgesTest::walk, x -> x.goes(1, 1), 3);
        Seen.leavesAll("fall(2, 0), without rods", FallEdgesTest::walk, x -> x.fall(2, 0), 0);
        Seen.leavesAll("fall(2, 1), without rods", FallEdgesTest::walk, x -> x.fall(2, 1), 0);
    }

    /** "As long as a JOINT is BEYOND": what bears just what it can stays. */
    private static void fallsOrStays() {
        falls(floor("a", 59, 60) + "drawing d;" + rod("r", "roof", "a", 60), 0);
        falls(floor("a", 60, 60) + "drawing d;" + rod("r", "roof", "a", 60), 0);
        falls(floor("a", 61, 60) + "drawing d;" + rod("r", "roof", "a", 60), 1, 0);
        falls(floor("a", 61, 60) + "drawing d;" + rod("r", "roof", "a", 61), 1, 1);
        // three rods: as one has gone, the others bear 30 of 30; or a half more
        String rods = "drawing d;" + rod("r", "roof", "a", 19) + rod("s", "roof", "a", 30) + rod("t", "roof", "a", 30);
        falls(floor("a", 60, 999) + rods, 0, 0);
        falls(floor("a", 61, 999) + rods, 1, 0, 2, 4);
        falls(floor("a", 57, 999) + rods, 0);
    }

    /** "Where a ROD hangs: the ROD and all its JOINTS are no more; a NUT: that ROD holds that FLOOR no more." */
    private static void whatGoes() {
        falls(floor("a", 8, 99) + floor("b", 8, 99) + "drawing d;" + rod("r", "roof", "a b", 15), 3, 0);
        // the nut of a is the worst; then the rod bears b alone, and can
        falls(floor("a", 10, 9) + floor("b", 10, 99) + "drawing d;" + rod("r", "roof", "a b", 19), 1, 1);
        // both nuts go, the rod that holds nothing stays
        falls(floor("a", 10, 9) + floor("b", 10, 8) + "drawing d;" + rod("r", "roof", "a b", 99), 3, 2, 1);
        // like ones: the first
        falls(floor("a", 10, 9) + floor("b", 10, 9) + "drawing d;" + rod("r", "roof", "a b", 99), 3, 1, 2);
    }

    /** "A FLOOR that was not OPEN and that no ROD holds any more has FALLEN." */
    private static void openOnesDoNotFall() {
        falls(floor("a", 9, 5) + floor("b", 9, 99) + "drawing d;" + rod("r", "a", "b", 1), 2, 0);
        falls(floor("a", 9, 5) + floor("b", 5, 99) + "drawing d;" + rod("r", "a", "b", 1), 0);
        falls(floor("a", 999, 1) + "drawing d;", 0);
    }

    /** "All RODS that hang from it are no more, which may let others FALL." */
    private static void whatHangsFromIt() {
        falls(Houses.sixFloors(10, 999) + Houses.chain(59), 63, 0);
        falls(Houses.sixFloors(10, 999) + Houses.chain(60), 0);
        // b is held from the roof, too: by as much as it weighs, or by one less
        String start = floor("a", 40, 99) + floor("b", 30, 99) + "drawing d;" + rod("p", "roof", "a", 54)
                + rod("k", "a", "b", 1);
        falls(start + rod("m", "roof", "b", 30), 1, 0);
        falls(start + rod("m", "roof", "b", 29), 3, 0, 4);
        // the first rod that is told hangs from what falls
        falls(floor("a", 40, 99) + floor("b", 30, 99) + "drawing d;" + rod("k", "a", "b", 1) + rod("p", "roof", "a", 69),
                3, 2);
        // c hangs from a and from b, which hangs from a
        falls(floor("a", 40, 99) + floor("b", 5, 99) + floor("c", 6, 99) + "drawing d;" + rod("p", "roof", "a", 50)
                + rod("k", "a", "b c", 1) + rod("m", "b", "c", 1), 7, 0);
    }

    /** "Then all is reckoned anew. (FALLEN ones weigh nothing on others.)" */
    private static void reckonedAnew() {
        // b falls off a, which is light then: each of three rods bore 18 / 3 of 6
        String rods = "drawing d;" + rod("r", "roof", "a", 6) + rod("s", "roof", "a", 6) + rod("t", "roof", "a", 6)
                + rod("v", "a", "b", 1);
        falls(floor("a", 1, 15) + floor("b", 17, 99) + rods, 2, 6);
        falls(floor("a", 1, 17) + floor("b", 17, 99) + rods, 0);
        falls(floor("a", 2, 15) + floor("b", 17, 99) + rods, 2, 6);
        falls(floor("a", 1, 15) + floor("b", 17, 99) + rods.replace("can 6", "can 5"), 3, 0, 2, 4);
    }

    /** As many as can go: 60 nuts, floor by floor. */
    private static void sixtyGo() {
        int[] went = new int[60];
        for (int i = 0; i < 60; i++) {
            went[i] = i % 10 * 7 + 1 + i / 10;
        }
        falls(Houses.sixFloors(999, 1) + Houses.tenRods(9999), 63, went);
    }

    /** "MORE: how many of the same JOINTS bear more"; "TWICE: at least twice as much (and more than 0)". */
    private static void moreAndTwice() {
        // r bears a alone, then a and b: 10 for 10 + b
        int[][] weighsMoreTwice = {{0, 0, 0}, {1, 1, 0}, {9, 1, 0}, {10, 1, 1}, {11, 1, 1}};
        for (int[] row : weighsMoreTwice) {
            HungFloors x = Check.of(floor("a", 10, 99) + floor("b", row[0], 99) + "drawing d;" + rod("r", "roof", "a", 9)
                    + "drawing e;" + rod("r", "roof", "a b", 9));
            due("more, 10 and 10 + " + row[0], x.change(0, 1, 0), row[1]);
            due("twice, 10 and 10 + " + row[0], x.change(0, 1, 1), row[2]);
            due("the same", x.change(0, 1, 3), 2);
            due("left", x.change(0, 1, 2), 0);
            due("back: more", x.change(1, 0, 0), 0);
            due("back: left", x.change(1, 0, 2), 1);
        }
        HungFloors y = Check.of(floor("a", 0, 99) + floor("b", 1, 99) + "drawing d;" + rod("r", "roof", "a", 9)
                + "drawing e;" + rod("r", "roof", "a b", 9));
        due("1 for nothing is more", y.change(0, 1, 0), 1);
        due("1 for nothing is twice as much", y.change(0, 1, 1), 1);
        HungFloors z = Check.of(floor("a", 0, 99) + "drawing d;" + rod("r", "roof", "a", 9)
                + "drawing e;" + rod("r", "roof", "a", 9));
        due("nothing for nothing is no more", z.change(0, 1, 0), 0);
        due("nothing for nothing is not twice", z.change(0, 1, 1), 0);
        z.live(0, 1);
        due("as much is no more", z.change(0, 1, 0), 0);
        due("as much is not twice", z.change(0, 1, 1), 0);
    }

    /** Parts that can't be told apart by whole numbers: a 1 / 7 and a 1 / 6 more than a third. */
    private static void twiceInParts() {
        StringBuilder s = new StringBuilder(floor("a", 1, 99)).append(floor("b", 1, 99)).append("drawing d;");
        for (char c = 'p'; c <= 'u'; c++) {
            s.append(rod("" + c, "roof", "a", 9));
        }
        s.append("drawing e;").append(rod("p", "roof", "a", 9)).append(rod("q", "roof", "a", 9));
        s.append(rod("r", "roof", "a", 9));
        s.append("drawing f;").append(rod("p", "roof", "a", 9)).append(rod("q", "roof", "a", 9));
        HungFloors x = Check.of(s.toString());
        due("1 / 3 for 1 / 6 is twice", x.change(0, 1, 1), 6);
        due("1 / 2 for 1 / 3 is not", x.change(1, 2, 1), 0);
        due("1 / 2 for 1 / 3 is more", x.change(1, 2, 0), 4);
        due("1 / 2 for 1 / 6 is twice", x.change(0, 2, 1), 4);
        due("1 / 6 for 1 / 3 is no more", x.change(1, 0, 0), 0);
        due("left of the first", x.change(0, 1, 2), 6);
    }

    /** "If their RODS are called the same, and both are where a ROD hangs, or NUTS of the same FLOOR." */
    private static void sameJoints() {
        String floors = floor("a", 1, 9) + floor("b", 1, 9);
        HungFloors x = Check.of(floors + "drawing d;" + rod("r", "roof", "a b", 9) + "drawing e;" + rod("s", "roof", "a b", 9)
                + "drawing f;" + rod("q", "roof", "a", 9) + rod("r", "a", "b", 9) + "drawing g;");
        due("another name: none", x.change(0, 1, 3), 0);
        due("another name: all left", x.change(0, 1, 2), 3);
        due("hung elsewhere: where it hangs, and the nut of b", x.change(0, 2, 3), 2);
        due("hung elsewhere: the nut of a is left", x.change(0, 2, 2), 1);
        due("back", x.change(2, 0, 3), 2);
        due("back", x.change(2, 0, 2), 2);
        due("to one without rods", x.change(0, 3, 2), 3);
        due("to one without rods", x.change(0, 3, 3), 0);
        due("from one without rods", x.change(3, 0, 2), 0);
        due("from one without rods", x.change(3, 0, 0), 0);
        // to itself: as any other pair (the term says "another one"; nothing says that it can't be)
        due("to itself: the same", x.change(0, 0, 3), 3);
        due("to itself: left", x.change(0, 0, 2), 0);
        due("to itself: more", x.change(0, 0, 0), 0);
    }

    /** "NONE if one can't be." */
    private static void changeRefused() {
        for (int what : new int[] {-1, -2, 4, 5, MIN, MAX}) {
            Seen.leavesAll("change(0, 1, " + what + ")", FallEdgesTest::walk, x -> x.change(0, 1, what), -1);
        }
        for (int d : NO_DRAWING) {
            for (int what = 0; what < 4; what++) {
                int w = what;
                Seen.leavesAll("change(" + d + ", 1, " + w + ")", FallEdgesTest::walk, x -> x.change(d, 1, w), -1);
                Seen.leavesAll("change(1, " + d + ", " + w + ")", FallEdgesTest::walk, x -> x.change(1, d, w), -1);
            }
        }
        Seen.leavesAll("change(0, 1, 3)", FallEdgesTest::walk, x -> x.change(0, 1, 3), 4);
    }

    private static void mends(String text, int count, int rods) {
        Seen.leavesAll("mend(0, 0) of " + text, () -> Check.of(text), x -> x.mend(0, 0), count);
        Seen.leavesAll("mend(0, 1) of " + text, () -> Check.of(text), x -> x.mend(0, 1), rods);
    }

    /** "The fewest RODS ... hung from the roof in its place ...; of like ones the least number (as bits)." */
    private static void mendFewest() {
        String rods = "drawing d;" + rod("r", "roof", "a", 99) + rod("s", "a", "b", 10) + rod("t", "a", "b", 10)
                + rod("u", "a", "b", 10);
        int[][] canCountRods = {{30, 0, 0}, {29, 1, 2}, {20, 1, 2}, {19, 2, 6}, {10, 2, 6}, {9, 3, 14}};
        for (int[] row : canCountRods) {
            mends(floor("a", 0, row[0]) + floor("b", 30, 99) + rods, row[1], row[2]);
        }
        // on the roof a rod can what it can: s 9 of the 10 that it bears
        String weak = rods.replaceFirst("can 10", "can 9");
        mends(floor("a", 0, 20) + floor("b", 30, 99) + weak, 1, 4);
        mends(floor("a", 0, 19) + floor("b", 30, 99) + weak, 2, 12);
        mends(floor("a", 0, 9) + floor("b", 30, 99) + weak, -1, -1);
        // u alone, or s and t: the fewest, though it is the greater number
        mends(floor("a", 0, 20) + floor("b", 20, 99) + floor("c", 20, 99) + "drawing d;" + rod("r", "roof", "a", 99)
                + rod("s", "a", "b", 99) + rod("t", "a", "b", 99) + rod("u", "a", "c", 99), 1, 8);
    }

    /** "NONE if none are enough, or one can't be." */
    private static void mendNone() {
        mends("drawing d;", 0, 0);
        mends(floor("a", 9, 9) + "drawing d;" + rod("r", "roof", "a", 9), 0, 0);
        mends(floor("a", 10, 9) + "drawing d;" + rod("r", "roof", "a", 10), -1, -1);
        mends(floor("a", 10, 10) + "drawing d;" + rod("r", "roof", "a", 9), -1, -1);
        // nine that hang from a, which can nearly nothing: all nine
        StringBuilder s = new StringBuilder(floor("a", 0, 1)).append(floor("b", 90, 99)).append("drawing d;");
        s.append(rod("r", "roof", "a", 1));
        for (char c = 'a'; c <= 'i'; c++) {
            s.append(rod("" + c, "a", "b", 10));
        }
        mends(s.toString(), 9, 1022);
        // ten that hang from a floor on the ground: all ten
        String ten = s.toString().replace(rod("r", "roof", "a", 1), rod("r", "a", "b", 10)).replace("weighs 90", "weighs 100");
        mends(ten, 10, 1023);
        mends(ten.replace("weighs 100", "weighs 101"), -1, -1);
        for (int what : NO_WHAT) {
            Seen.leavesAll("mend(1, " + what + ")", FallEdgesTest::walk, x -> x.mend(1, what), -1);
        }
        for (int d : NO_DRAWING) {
            Seen.leavesAll("mend(" + d + ", 0)", FallEdgesTest::walk, x -> x.mend(d, 0), -1);
            Seen.leavesAll("mend(" + d + ", 1)", FallEdgesTest::walk, x -> x.mend(d, 1), -1);
        }
    }

    private static void chances(String text, int n, int m, long upper, long lower) {
        HungFloors x = Check.of(text);
        due("odds(0, " + n + ", " + m + ", 0) of " + text, x.odds(0, n, m, 0), upper);
        due("odds(0, " + n + ", " + m + ", 1) of " + text, x.odds(0, n, m, 1), lower);
        x.live(0, 999);
        x.move(20);
        due("nobody else: upper part of " + text, x.odds(0, n, m, 0), upper);
        due("nobody else: lower part of " + text, x.odds(0, n, m, 1), lower);
        due("who is there stays", x.about(0) == 0 ? 999 : x.about(10), 999);
        due("as they move", x.about(5), 20);
    }

    /** "ODDS for n people (0 .. 10), ... moving by m (MOVE)". */
    private static void oddsOfFew() {
        String ten = floor("a", 0, 10) + "drawing d;" + rod("r", "roof", "a", 99);
        chances(ten, 0, 0, 0, 1);
        chances(ten, 0, 20, 0, 1);
        chances(ten, 10, 0, 0, 1);
        chances(ten, 10, 1, 1, 1);
        chances(ten, 9, 1, 0, 1);
        chances(ten, 9, 2, 1, 1);
        chances(ten, 3, 20, 0, 1);
        chances(ten, 4, 20, 1, 1);
        chances(ten, 11, 0, -1, -1);
        chances(ten, -1, 0, -1, -1);
        chances(ten, 1, -1, -1, -1);
        chances(ten, 1, 21, -1, -1);
        chances(ten, MAX, 0, -1, -1);
        chances(ten, MIN, 0, -1, -1);
        chances(ten, 1, MAX, -1, -1);
        chances(ten, 1, MIN, -1, -1);
        String beyond = floor("a", 11, 10) + "drawing d;" + rod("r", "roof", "a", 99);
        chances(beyond, 0, 0, 1, 1);
        chances(beyond, 10, 20, 1, 1);
        chances("drawing d;", 0, 0, 0, 1);
        chances("drawing d;", 1, 0, -1, -1);
        chances(floor("a", 9, 1) + "drawing d;", 10, 20, 0, 1);
    }

    /** "Each of whom stands by lot on a FLOOR (by its stands, of all stands together)". */
    private static void oddsByStands() {
        String rods = "drawing d;" + rod("r", "roof", "a b", 99);
        String wide = floor("a", 0, 99).replace("stands 1", "stands 9");
        chances(wide + floor("b", 1, 1) + rods, 1, 0, 1, 10);
        chances(wide + floor("b", 1, 1) + rods, 2, 0, 19, 100);
        chances(wide + floor("b", 0, 1) + rods, 2, 0, 1, 100);
        chances(wide + floor("b", 0, 1) + rods, 1, 0, 0, 1);
        chances(wide + floor("b", 1, 1).replace("stands 1", "stands 0") + rods, 10, 20, 0, 1);
        // all stand where nothing can be borne any more
        chances(floor("a", 0, 99).replace("stands 1", "stands 0") + floor("b", 1, 1) + rods, 1, 0, 1, 1);
        // "NONE if ... all stands are 0 (and n is not)"
        String none = (floor("a", 0, 99) + floor("b", 1, 1)).replace("stands 1", "stands 0") + rods;
        chances(none, 0, 0, 0, 1);
        chances(none, 0, 20, 0, 1);
        chances(none, 1, 0, -1, -1);
        chances(none, 10, 20, -1, -1);
        chances(none.replace("weighs 1", "weighs 2"), 0, 0, 1, 1);
        chances(none.replace("weighs 1", "weighs 2"), 1, 0, -1, -1);
    }

    /** "That any JOINT is BEYOND": where a rod hangs, from the roof or from a floor, or a nut. */
    private static void oddsOfAnyJoint() {
        String two = floor("a", 0, 99) + floor("b", 0, 99) + "drawing d;";
        chances(two + rod("r", "roof", "a", 1) + rod("s", "roof", "b", 99), 2, 0, 1, 4);
        chances(two + rod("r", "roof", "a", 99) + rod("s", "roof", "b", 1), 2, 0, 1, 4);
        chances(two + rod("r", "roof", "a", 1) + rod("s", "roof", "b", 1), 2, 0, 1, 2);
        chances(two + rod("r", "roof", "a b", 1), 2, 0, 1, 1);
        chances(two + rod("r", "roof", "a b", 2), 2, 0, 0, 1);
        // b hangs from a, which can 1: both on b are beyond where s hangs, and any two beyond the nut of a
        String hung = floor("a", 0, 1) + floor("b", 0, 99) + "drawing d;" + rod("r", "roof", "a", 99);
        chances(hung + rod("s", "a", "b", 1), 1, 0, 0, 1);
        chances(hung + rod("s", "a", "b", 1), 2, 0, 1, 1);
        // on the ground a bears no nut: where s hangs alone
        chances(floor("a", 0, 1) + floor("b", 0, 99) + "drawing d;" + rod("s", "a", "b", 1), 2, 0, 1, 4);
        chances(floor("a", 0, 99) + floor("b", 0, 1) + "drawing d;" + rod("s", "a", "b", 1), 2, 0, 1, 4);
        // shared by three: four of ten or more would be too many for a nut that can 1
        chances(floor("a", 0, 1) + "drawing d;" + rod("r", "roof", "a", 9) + rod("s", "roof", "a", 9)
                + rod("t", "roof", "a", 9), 3, 0, 0, 1);
        chances(floor("a", 0, 1) + "drawing d;" + rod("r", "roof", "a", 9) + rod("s", "roof", "a", 9)
                + rod("t", "roof", "a", 9), 4, 0, 1, 1);
    }

    /** As many ways as there can be: 54 ** 10; and a prime number of stands, where nothing can be shortened. */
    private static void oddsOfMany() {
        StringBuilder s = new StringBuilder();
        for (char c = 'a'; c <= 'e'; c++) {
            s.append(floor("" + c, 0, 9999).replace("stands 1", "stands 9"));
        }
        String rods = "drawing d;" + rod("r", "roof", "a b c d e f", 9999);
        String last = floor("f", 0, 9);
        chances(s + last.replace("stands 1", "stands 9") + rods, 10, 0, 1, 60466176L);
        chances(s + last.replace("stands 1", "stands 8") + rods, 10, 0, 1073741824L, 174887470365513049L);
        chances(s + last.replace("stands 1", "stands 8") + rods, 10, 20, 8916577718247424L, 174887470365513049L);
        // as many joints as there can be, each at what it can: whoever comes is too much
        String full = Houses.sixFloors(10, 1) + Houses.tenRods(6);
        chances(full, 0, 20, 0, 1);
        chances(full, 1, 0, 1, 1);
        chances(full, 10, 20, 1, 1);
    }

    /** "NONE if one can't be" of odds. */
    private static void oddsRefused() {
        for (int part : new int[] {-1, -2, 2, 3, MIN, MAX}) {
            Seen.leavesAll("odds(1, 1, 0, " + part + ")", FallEdgesTest::walk, x -> x.odds(1, 1, 0, part), -1);
        }
        for (int d : NO_DRAWING) {
            Seen.leavesAll("odds(" + d + ", 1, 0, 0)", FallEdgesTest::walk, x -> x.odds(d, 1, 0, 0), -1);
            Seen.leavesAll("odds(" + d + ", 0, 0, 1)", FallEdgesTest::walk, x -> x.odds(d, 0, 0, 1), -1);
        }
        Seen.leavesAll("odds(1, 10, 20, 0)", FallEdgesTest::walk, x -> x.odds(1, 10, 20, 0), 1);
        Seen.leavesAll("odds(0, 10, 20, 1)", FallEdgesTest::walk, x -> x.odds(0, 10, 20, 1), 32);
    }

    private static void mostOn(String text, int move, int want) {
        HungFloors x = Check.of(text);
        x.move(move);
        due("most(0, 0) of " + text, x.most(0, 0), want);
        x.live(0, 999);
        due("whoever is there: " + text, x.most(0, 0), want);
        due("and stays: " + text, x.about(10), 999);
        if (want >= 0) {
            x.live(0, want);
            due("with them none is beyond: " + text, x.beyond(0), 0);
        }
        if (want >= 0 && want < 999) {
            x.live(0, want + 1);
            due("with one more one is: " + text, Seen.bit(x.beyond(0) > 0), 1);
        }
    }

    /** "MOST of a FLOOR: the most people (0 .. 999) on it"; "NONE if there is one BEYOND with nobody on it". */
    private static void mostPeople() {
        String rods = " stands 1;drawing d;" + rod("r", "roof", "a", 9999);
        mostOn("floor a weighs 10 can 9" + rods, 0, -1);
        mostOn("floor a weighs 10 can 10" + rods, 0, 0);
        mostOn("floor a weighs 10 can 11" + rods, 0, 1);
        for (int can : new int[] {255, 256, 257, 511, 512, 513, 998}) {
            mostOn("floor a weighs 0 can " + can + rods, 0, can);
        }
        mostOn("floor a weighs 0 can 999" + rods, 0, 999);
        mostOn("floor a weighs 0 can 1000" + rods, 0, 999);
        mostOn("floor a weighs 0 can 2996" + rods, 20, 998);
        mostOn("floor a weighs 0 can 2997" + rods, 20, 999);
        mostOn("floor a weighs 0 can 10" + rods, 1, 9);
        mostOn("floor a weighs 0 can 11" + rods, 1, 10);
        mostOn("floor a weighs 0 can 1" + rods, 1, 0);
        mostOn("floor a weighs 999 can 1 stands 1;drawing d;", 20, 999);
        mostOn("floor a weighs 0 can 99 stands 1;drawing d;" + rod("r", "roof", "a", 7), 0, 7);
        // shared by three: 22 1/3 is beyond 22
        String three = "drawing d;" + rod("r", "roof", "a", 22) + rod("s", "roof", "a", 23) + rod("t", "roof", "a", 99);
        mostOn("floor a weighs 0 can 99 stands 1;" + three, 0, 66);
        // another floor is beyond, whoever is on this one
        mostOn(floor("a", 0, 99) + floor("b", 2, 1) + "drawing d;" + rod("r", "roof", "a b", 99), 0, -1);
        mostOn(floor("a", 0, 99) + floor("b", 1, 1) + "drawing d;" + rod("r", "roof", "a b", 99), 0, 98);
    }

    /** "All else LIVE as it is"; "or one can't be". */
    private static void mostOfOthers() {
        HungFloors x = Check.of(floor("a", 0, 99) + floor("b", 0, 50) + "drawing d;" + rod("r", "roof", "a b", 99));
        due("nobody on b", x.most(0, 0), 99);
        x.live(1, 40);
        due("40 on b", x.most(0, 0), 59);
        x.live(1, 50);
        due("50 on b", x.most(0, 0), 49);
        x.live(1, 51);
        due("51 on b", x.most(0, 0), -1);
        due("of b itself", x.most(0, 1), 50);
        for (int f : new int[] {-1, 2, 6, MIN, MAX}) {
            Seen.leavesAll("most(0, " + f + ")", FallEdgesTest::walk, y -> y.most(0, f), -1);
        }
        for (int d : NO_DRAWING) {
            Seen.leavesAll("most(" + d + ", 0)", FallEdgesTest::walk, y -> y.most(d, 0), -1);
        }
        Seen.leavesAll("most(0, 1)", FallEdgesTest::walk, y -> y.most(0, 1), 15);
        Seen.leavesAll("most(1, 0)", FallEdgesTest::walk, y -> y.most(1, 0), -1);
        Seen.leavesAll("most(2, 1)", FallEdgesTest::walk, y -> y.most(2, 1), 999);
    }

    private static void rules(String text, int least, int hours) {
        Seen.leavesAll("rule(0) of " + text, () -> Check.of(text), x -> x.rule(0), least);
        Seen.leavesAll("rule(1) of " + text, () -> Check.of(text), x -> x.rule(1), hours);
    }

    /** "The least r so that in each DRAWING in which one is BEYOND one of its first r is (0 if none is in any)." */
    private static void leastRule() {
        rules("", 0, 0);
        rules("drawing d;", 0, 0);
        // r: 50, its nuts 30 and 20
        String rods = "drawing d;" + rod("r", "roof", "a b", 50);
        rules(floor("a", 30, 30) + floor("b", 20, 20) + rods, 0, 0);
        rules(floor("a", 30, 30) + floor("b", 20, 20) + rods.replace("can 50", "can 49"), 1, 1);
        rules(floor("a", 30, 29) + floor("b", 20, 20) + rods, 2, 2);
        rules(floor("a", 30, 30) + floor("b", 20, 19) + rods, 3, 3);
        rules(floor("a", 30, 29) + floor("b", 20, 19) + rods, 2, 2);
        rules(floor("a", 30, 29) + floor("b", 20, 19) + rods.replace("can 50", "can 49"), 1, 1);
        // like ones by their order: the nut of a bears as much as the rod
        rules(floor("a", 30, 29) + "drawing d;" + rod("r", "roof", "a", 30), 2, 2);
        rules(floor("a", 30, 30) + "drawing d;" + rod("r", "roof", "a", 29), 1, 1);
    }

    /** "In each DRAWING one for each of its first r JOINTS (all, if they are fewer)." */
    private static void hoursOfRule() {
        String floors = floor("a", 30, 30) + floor("b", 20, 19);
        String two = "drawing d;" + rod("r", "roof", "a b", 50);
        rules(floors + two + "drawing e;", 3, 3);
        rules(floors + two + "drawing e;" + rod("s", "roof", "a", 99), 3, 5);
        rules(floors + two + "drawing e;" + rod("s", "roof", "a", 99) + rod("t", "roof", "a", 99), 3, 6);
        rules(floors + "drawing e;" + rod("s", "roof", "a", 29) + two, 3, 5);
        rules(floors + "drawing e;" + rod("s", "roof", "a", 29), 1, 1);
        rules(floors + "drawing e;drawing f;" + rod("s", "roof", "a", 29) + "drawing g;" + two, 3, 5);
        rules(floors + "drawing e;drawing f;drawing g;" + rod("s", "roof", "a", 99) + two, 3, 5);
        for (int what : NO_WHAT) {
            Seen.leavesAll("rule(" + what + ")", FallEdgesTest::walk, x -> x.rule(what), -1);
            Seen.leavesAll("rule(" + what + ") at first", HungFloors::new, x -> x.rule(what), -1);
        }
        // 60 joints bear more than the first nut of f, which is beyond
        StringBuilder s = new StringBuilder();
        for (char c = 'a'; c <= 'e'; c++) {
            s.append(floor("" + c, 999, 9999));
        }
        s.append(floor("f", 11, 1)).append(Houses.tenRods(9999));
        rules(s.toString(), 61, 61);
        rules(s.toString().replace("weighs 11", "weighs 10"), 0, 0);
    }

    /** "ELSEWHERE: the i-th (from 0 on) ...; NONE if there is none such." */
    private static void elsewhere() {
        for (int i : new int[] {-1, 2, 3, MIN, MAX}) {
            Seen.leavesAll("elsewhere(0, " + i + ")", FallEdgesTest::walk, x -> x.elsewhere(0, i), -1);
        }
        for (int d : NO_DRAWING) {
            Seen.leavesAll("elsewhere(" + d + ", 0)", FallEdgesTest::walk, x -> x.elsewhere(d, 0), -1);
        }
        Seen.leavesAll("elsewhere(0, 0)", FallEdgesTest::walk, x -> x.elsewhere(0, 0), 101);
        Seen.leavesAll("elsewhere(0, 1)", FallEdgesTest::walk, x -> x.elsewhere(0, 1), 103);
        Seen.leavesAll("elsewhere(1, 0)", FallEdgesTest::walk, x -> x.elsewhere(1, 0), -1);
        Seen.leavesAll("elsewhere(2, 1)", FallEdgesTest::walk, x -> x.elsewhere(2, 1), 103);
        due("elsewhere at first", new HungFloors().elsewhere(0, 0), -1);
    }

    /** "By their RATIO, the greatest first, of like ones by DRAWING, then JOINT." */
    private static void elsewhereByRatio() {
        // in each drawing a nut of a: 30 + what hangs from it
        String start = floor("a", 30, 60) + floor("b", 30, 99) + floor("c", 1, 99) + floor("d", 0, 99) + "drawing p;";
        String light = rod("r", "roof", "a", 99) + rod("s", "a", "d", 99);
        String heavy = rod("r", "roof", "a", 99) + rod("s", "a", "c", 99);
        HungFloors x = Check.of(start + light + "drawing q;" + light + "drawing r;" + heavy + "drawing s;" + light);
        due("the heavier first", x.elsewhere(1, 0), 201);
        due("like ones by drawing", x.elsewhere(1, 1), 1);
        due("like ones by drawing", x.elsewhere(1, 2), 301);
        due("no more", x.elsewhere(1, 3), -1);
        due("but the heavier", x.elsewhere(2, 0), 1);
        due("but the heavier", x.elsewhere(2, 2), 301);
        x.live(3, 1);
        due("all alike", x.elsewhere(0, 0), 101);
        due("all alike", x.elsewhere(0, 1), 201);
        due("all alike", x.elsewhere(0, 2), 301);
        x.live(3, 2);
        due("the heavier last", x.elsewhere(0, 0), 101);
        due("the heavier last", x.elsewhere(0, 1), 301);
        due("the heavier last", x.elsewhere(0, 2), 201);
        // in one drawing by joint; a nut of a floor that is not double is none of them
        HungFloors y = Check.of(start + "drawing q;" + rod("r", "roof", "a b", 99) + rod("s", "roof", "a b", 99)
                + rod("t", "a", "c", 99));
        due("the first rod's", y.elsewhere(0, 0), 101);
        due("the second rod's", y.elsewhere(0, 1), 104);
        due("b is not double", y.elsewhere(0, 2), -1);
        // 10 / 30, 333 / 999 and 334 / 999
        HungFloors z = Check.of(floor("a", 10, 30) + floor("b", 333, 999) + floor("c", 334, 999) + floor("d", 0, 9)
                + "drawing p;drawing q;" + rod("r", "roof", "a b c", 9999) + rod("s", "a", "d", 9) + rod("t", "b", "d", 9)
                + rod("u", "c", "d", 9));
        due("334 / 999", z.elsewhere(0, 0), 103);
        due("10 / 30", z.elsewhere(0, 1), 101);
        due("333 / 999", z.elsewhere(0, 2), 102);
        // 0, 1, 3 / 2 and 2: whole ones and not
        HungFloors w = Check.of(floor("a", 0, 4) + floor("b", 4, 4) + floor("c", 6, 4) + floor("d", 8, 4) + floor("e", 0, 4)
                + "drawing p;drawing q;" + rod("r", "roof", "a b c d", 99) + rod("s", "a", "e", 9) + rod("t", "b", "e", 9)
                + rod("u", "c", "e", 9) + rod("v", "d", "e", 9));
        for (int i = 0; i < 5; i++) {
            due("the heaviest first, " + i, w.elsewhere(0, i), i == 4 ? -1 : 104 - i);
        }
    }

    /** Ratios that lie close together: 2 / 5, 1 / 2, 5 / 12, 3 / 7, 12 / 29. */
    private static void elsewhereCloseBy() {
        HungFloors x = Check.of(floor("a", 2, 5) + floor("b", 1, 2) + floor("c", 5, 12) + floor("d", 3, 7)
                + floor("e", 12, 29) + floor("f", 0, 9) + "drawing p;drawing q;" + rod("r", "roof", "a b c d e", 99)
                + rod("s", "a", "f", 9) + rod("t", "b", "f", 9) + rod("u", "c", "f", 9) + rod("v", "d", "f", 9)
                + rod("w", "e", "f", 9));
        int[] want = {102, 104, 103, 105, 101, -1};
        for (int i = 0; i < want.length; i++) {
            due("close by, " + i, x.elsewhere(0, i), want[i]);
        }
    }

    public static void main(String[] args) {
        fallRefused();
        fallsOrStays();
        whatGoes();
        openOnesDoNotFall();
        whatHangsFromIt();
        reckonedAnew();
        sixtyGo();
        moreAndTwice();
        twiceInParts();
        sameJoints();
        changeRefused();
        mendFewest();
        mendNone();
        oddsOfFew();
        oddsByStands();
        oddsOfAnyJoint();
        oddsOfMany();
        oddsRefused();
        mostPeople();
        mostOfOthers();
        leastRule();
        hoursOfRule();
        elsewhere();
        elsewhereByRatio();
        elsewhereCloseBy();
        Check.finish();
    }
}
