/** People, joints, what they bear and what is beyond (terms, ==== 2; promises 6 to 13, 17, 18): each boundary. */
public final class BearEdgesTest {
    private static final int MIN = Integer.MIN_VALUE;
    private static final int MAX = Integer.MAX_VALUE;
    private static final String WALK = Houses.WALK;

    private static void due(String call, long got, long want) {
        Check.due(call, got, want);
    }

    private static HungFloors walk() {
        HungFloors x = Check.of(WALK);
        x.live(0, 4);
        x.live(1, 9);
        x.move(3);
        x.paper(1, 2, 1, 5, true);
        return x;
    }

    private static HungFloors noFloors() {
        return Check.of("drawing a;");
    }

    private static String full(int weighs, int can, int rodCan) {
        return Houses.sixFloors(weighs, can) + Houses.tenRods(rodCan);
    }

    private static String chain(int weighs, int can, int rodCan) {
        return Houses.sixFloors(weighs, can) + Houses.chain(rodCan);
    }

    /** "False, doing nothing, if there is none such, or people is not 0 .. 999." */
    private static void liveRefused() {
        for (int people : new int[] {-1, -2, 1000, 1001, MIN, MAX}) {
            Seen.leavesAll("live(0, " + people + ")", BearEdgesTest::walk, x -> Seen.bit(x.live(0, people)), 0);
            Seen.leavesAll("live(1, " + people + ")", BearEdgesTest::walk, x -> Seen.bit(x.live(1, people)), 0);
        }
        for (int floor : new int[] {-1, 2, 3, 6, MIN, MAX}) {
            Seen.leavesAll("live(" + floor + ", 0)", BearEdgesTest::walk, x -> Seen.bit(x.live(floor, 0)), 0);
            Seen.leavesAll("live(" + floor + ", 5)", BearEdgesTest::walk, x -> Seen.bit(x.live(floor, 5)), 0);
        }
        Seen.leavesAll("live(0, 0) without floors", BearEdgesTest::noFloors, x -> Seen.bit(x.live(0, 0)), 0);
        Seen.leavesAll("live(0, 0) at first", HungFloors::new, x -> Seen.bit(x.live(0, 0)), 0);
    }

    /** "LIVE on a FLOOR: true": the latest number stands, on that floor alone. */
    private static void liveTaken() {
        for (int people : new int[] {0, 1, 998, 999}) {
            HungFloors x = Check.of(WALK);
            due("live(0, 7)", Seen.bit(x.live(0, 7)), 1);
            due("live(0, " + people + ")", Seen.bit(x.live(0, people)), 1);
            due("about(10)", x.about(10), people);
            due("about(11)", x.about(11), 0);
            due("weight of the floor", x.weight(0, 0, 0), 100 + people);
            due("weight of the other", x.weight(0, 1, 0), 100);
            due("in the other drawing", x.weight(1, 0, 0), 200 + people);
            due("on the ground", x.weight(2, 0, 0), 100 + people);
        }
        HungFloors y = Check.of(WALK);
        due("live(1, 999)", Seen.bit(y.live(1, 999)), 1);
        due("about(10)", y.about(10), 0);
        due("about(11)", y.about(11), 999);
        due("as it was already", Seen.bit(y.live(1, 999)), 1);
    }

    /** "MOVE: true; false, doing nothing, if it is not 0 .. 20"; "each of whom weighs 1 + move / 10". */
    private static void moving() {
        for (int much : new int[] {-1, -10, 21, 22, MIN, MAX}) {
            Seen.leavesAll("move(" + much + ")", BearEdgesTest::walk, x -> Seen.bit(x.move(much)), 0);
            Seen.leavesAll("move(" + much + ") at first", HungFloors::new, x -> Seen.bit(x.move(much)), 0);
        }
        for (int much = 0; much <= 20; much++) {
            HungFloors x = Check.of(WALK);
            x.live(0, 10);
            due("move(" + much + ")", Seen.bit(x.move(much)), 1);
            due("about(5)", x.about(5), much);
            due("weight of ten people more", x.weight(0, 0, 0), 110 + much);
            due("about(10)", x.about(10), 10);
            due("nobody there: no more", x.weight(0, 1, 0), 100);
            due("back", Seen.bit(x.move(0)), 1);
            due("weight then", x.weight(0, 0, 0), 110);
        }
        HungFloors y = Check.of(WALK);
        y.live(0, 1);
        y.move(1);
        due("101 1/10", y.weight(0, 0, 0), 1011);
        due("101 1/10", y.weight(0, 0, 1), 10);
        y.move(20);
        due("103", y.weight(0, 0, 0), 103);
        due("103", y.weight(0, 0, 1), 1);
        y.move(5);
        due("101 1/2", y.weight(0, 0, 0), 203);
        due("101 1/2", y.weight(0, 0, 1), 2);
    }

    /** "How many JOINTS a DRAWING has; NONE if there is none such." */
    private static void howManyJoints() {
        for (int d : new int[] {-1, 3, 4, MIN, MAX}) {
            Seen.leavesAll("joints(" + d + ")", BearEdgesTest::walk, x -> x.joints(d), -1);
            Seen.leavesAll("beyond(" + d + ")", BearEdgesTest::walk, x -> x.beyond(d), -1);
            Seen.leavesAll("worst(" + d + ")", BearEdgesTest::walk, x -> x.worst(d), -1);
        }
        HungFloors x = walk();
        due("joints(0)", x.joints(0), 6);
        due("joints(1)", x.joints(1), 8);
        due("joints(2), without rods", x.joints(2), 0);
        due("beyond(2), without rods", x.beyond(2), 0);
        due("worst(2), without rods", x.worst(2), -1);
        due("joint(2, 0, 0), without rods", x.joint(2, 0, 0), -1);
        due("as many as there can be", Check.of(full(1, 1, 1)).joints(0), 70);
        due("no floors, no joints", noFloors().joints(0), 0);
    }

    /** "NONE if there is none such, or for another what"; "in this order". */
    private static void whichJoint() {
        for (int j : new int[] {-1, 8, 9, MIN, MAX}) {
            for (int what = 0; what < 4; what++) {
                int w = what;
                Seen.leavesAll("joint(1, " + j + ", " + w + ")", BearEdgesTest::walk, x -> x.joint(1, j, w), -1);
            }
        }
        for (int d : new int[] {-1, 2, 3, MIN, MAX}) {
            Seen.leavesAll("joint(" + d + ", 0, 0)", BearEdgesTest::walk, x -> x.joint(d, 0, 0), -1);
        }
        for (int what : new int[] {-1, 4, 5, MIN, MAX}) {
            Seen.leavesAll("joint(1, 0, " + what + ")", BearEdgesTest::walk, x -> x.joint(1, 0, what), -1);
        }
        HungFloors x = Check.of(full(3, 8, 9));
        for (int j = 0; j < 70; j++) {
            due("rod of joint " + j, x.joint(0, j, 0), j / 7);
            due("floor of joint " + j, x.joint(0, j, 1), j % 7 - 1);
            due("what joint " + j + " can", x.joint(0, j, 2), j % 7 == 0 ? 9 : 8);
            due("joint " + j + " beyond", x.joint(0, j, 3), 0);
        }
        due("joint(0, 70, 0)", x.joint(0, 70, 0), -1);
        due("bears(0, 70, 0)", x.bears(0, 70, 0), -1);
        due("bears(0, 69, 0)", x.bears(0, 69, 0), 3);
        due("bears(0, 69, 1)", x.bears(0, 69, 1), 10);
    }

    /** "From the roof: it can what the ROD can; from a FLOOR: what that FLOOR can"; "downward, its NUT". */
    private static void whatJointsCan() {
        HungFloors x = Check.of("floor a weighs 0 can 11 stands 0;floor b weighs 0 can 22 stands 0;"
                + "floor c weighs 0 can 33 stands 0;drawing d;rod r from roof by a c can 44;rod s from a by b c can 55;"
                + "rod t from b by c can 66;");
        int[][] want = {{0, -1, 44}, {0, 0, 11}, {0, 2, 33}, {1, -1, 11}, {1, 1, 22}, {1, 2, 33}, {2, -1, 22}, {2, 2, 33}};
        due("joints", x.joints(0), 8);
        for (int j = 0; j < 8; j++) {
            for (int what = 0; what < 3; what++) {
                due("joint(0, " + j + ", " + what + ")", x.joint(0, j, what), want[j][what]);
            }
        }
    }

    /** "Upper part (0), lower part (1), in lowest terms; NONE likewise." */
    private static void parts() {
        for (int part : new int[] {-1, 2, 3, MIN, MAX}) {
            Seen.leavesAll("bears(1, 0, " + part + ")", BearEdgesTest::walk, x -> x.bears(1, 0, part), -1);
            Seen.leavesAll("weight(1, 0, " + part + ")", BearEdgesTest::walk, x -> x.weight(1, 0, part), -1);
        }
        for (int part = 0; part < 2; part++) {
            int p = part;
            for (int j : new int[] {-1, 8, 9, MIN, MAX}) {
                Seen.leavesAll("bears(1, " + j + ", " + p + ")", BearEdgesTest::walk, x -> x.bears(1, j, p), -1);
            }
            for (int f : new int[] {-1, 2, 5, 6, MIN, MAX}) {
                Seen.leavesAll("weight(1, " + f + ", " + p + ")", BearEdgesTest::walk, x -> x.weight(1, f, p), -1);
            }
            for (int d : new int[] {-1, 3, 4, MIN, MAX}) {
                Seen.leavesAll("bears(" + d + ", 0, " + p + ")", BearEdgesTest::walk, x -> x.bears(d, 0, p), -1);
                Seen.leavesAll("weight(" + d + ", 0, " + p + ")", BearEdgesTest::walk, x -> x.weight(d, 0, p), -1);
            }
        }
    }

    /** Nothing is borne: 0 / 1. */
    private static void bearsNothing() {
        HungFloors x = Check.of("floor a weighs 0 can 1 stands 0;drawing d;rod r from roof by a can 1;"
                + "rod s from roof by a can 1;rod t from roof by a can 1;");
        for (int j = 0; j < 6; j++) {
            due("upper part of " + j, x.bears(0, j, 0), 0);
            due("lower part of " + j, x.bears(0, j, 1), 1);
        }
        due("weight", x.weight(0, 0, 0), 0);
        due("weight", x.weight(0, 0, 1), 1);
        due("none beyond", x.beyond(0), 0);
        x.live(0, 1);
        due("1 / 3", x.bears(0, 1, 0), 1);
        due("1 / 3", x.bears(0, 1, 1), 3);
        x.move(1);
        due("11 / 30", x.bears(0, 1, 0), 11);
        due("11 / 30", x.bears(0, 1, 1), 30);
        x.live(0, 3);
        due("33 / 30 in lowest terms", x.bears(0, 1, 0), 11);
        due("33 / 30 in lowest terms", x.bears(0, 1, 1), 10);
        x.live(0, 30);
        due("330 / 30 in lowest terms", x.bears(0, 0, 0), 11);
        due("330 / 30 in lowest terms", x.bears(0, 0, 1), 1);
    }

    /** As much as there can be: six floors of 999 with 999 people who weigh 3 each, one below the other. */
    private static void bearsMost() {
        HungFloors x = Check.of(chain(999, 9999, 9999));
        for (int f = 0; f < 6; f++) {
            x.live(f, 999);
        }
        x.move(20);
        for (int f = 0; f < 6; f++) {
            due("weight of floor " + f, x.weight(0, f, 0), (6 - f) * 3996);
            due("where rod " + f + " hangs", x.bears(0, 2 * f, 0), (6 - f) * 3996);
            due("nut of floor " + f, x.bears(0, 2 * f + 1, 0), (6 - f) * 3996);
        }
        due("beyond: where three floors' weight or more is borne", x.beyond(0), 8);
        due("worst", x.worst(0), 0);
        HungFloors y = Check.of(full(999, 9999, 9999));
        for (int f = 0; f < 6; f++) {
            y.live(f, 999);
        }
        y.move(20);
        due("a tenth of all", y.bears(0, 0, 0), 11988);
        due("by 5", y.bears(0, 0, 1), 5);
        due("a tenth of one", y.bears(0, 1, 0), 1998);
        due("none beyond", y.beyond(0), 0);
    }

    /** "All RODS that hold it bear the same share of it. A ROD bears its shares of all FLOORS that it holds." */
    private static void shares() {
        // b: 1, a third of it on t, which hangs from a: a weighs 1 1/3, a seventh of it is 4/21
        HungFloors x = Check.of("floor a weighs 1 can 9 stands 0;floor b weighs 1 can 9 stands 0;drawing d;"
                + "rod a from roof by a b can 9;rod b from roof by a b can 9;rod c from roof by a can 9;"
                + "rod d from roof by a can 9;rod e from roof by a can 9;rod f from roof by a can 9;"
                + "rod g from roof by a can 9;rod t from a by b can 9;");
        due("weight of a", x.weight(0, 0, 0), 4);
        due("weight of a", x.weight(0, 0, 1), 3);
        due("nut of a", x.bears(0, 1, 0), 4);
        due("nut of a", x.bears(0, 1, 1), 21);
        due("rod a", x.bears(0, 0, 0), 11);
        due("rod a", x.bears(0, 0, 1), 21);
        due("rod g", x.bears(0, 14, 0), 4);
        due("rod t", x.bears(0, 16, 0), 1);
        due("rod t", x.bears(0, 16, 1), 3);
    }

    /** "A FLOOR that no ROD holds is OPEN: ... they bear, as told, but nothing of that goes on." */
    private static void openFloors() {
        HungFloors x = Check.of("floor a weighs 5 can 9 stands 0;floor b weighs 7 can 9 stands 0;"
                + "floor c weighs 8 can 9 stands 0;drawing d;rod r from roof by a can 9;rod s from b by c can 9;");
        due("b is open", x.floors(0, 0), 2);
        due("what hangs from it weighs on it", x.weight(0, 1, 0), 15);
        due("s bears", x.bears(0, 2, 0), 8);
        due("nothing goes on", x.weight(0, 0, 0), 5);
        x.live(1, 999);
        due("the open floor's people", x.weight(0, 1, 0), 1014);
        due("are on no joint", x.beyond(0), 0);
        x.live(2, 2);
        due("what hangs from it is beyond", x.beyond(0), 2);
    }

    /** "BEYOND: a JOINT that bears more than it can": less, as much, the least bit more. */
    private static void justBeyond() {
        String text = "floor a weighs 59 can 60 stands 0;drawing d;rod r from roof by a can 60;";
        int[][] peopleMoveBeyond = {{0, 0, 0}, {1, 0, 0}, {1, 1, 2}, {2, 0, 2}, {0, 20, 0}};
        for (int[] row : peopleMoveBeyond) {
            HungFloors x = Check.of(text);
            x.live(0, row[0]);
            x.move(row[1]);
            due(row[0] + " people, move " + row[1] + ": beyond", x.beyond(0), row[2]);
            due("where it hangs", x.joint(0, 0, 3), row[2] / 2);
            due("the nut", x.joint(0, 1, 3), row[2] / 2);
        }
        // thirds: 59 2/3, 60, 60 1/3 of 60
        int[] weighs = {179, 180, 181};
        for (int i = 0; i < 3; i++) {
            HungFloors x = Check.of("floor a weighs " + weighs[i] + " can 60 stands 0;drawing d;"
                    + "rod r from roof by a can 60;rod s from roof by a can 61;rod t from roof by a can 60;");
            due(weighs[i] + " / 3 of 60", x.beyond(0), i == 2 ? 5 : 0);
            due("of 61", x.joint(0, 2, 3), 0);
        }
        // where a rod hangs from a floor: what that floor can
        HungFloors y = Check.of("floor a weighs 0 can 10 stands 0;floor b weighs 10 can 99 stands 0;drawing d;"
                + "rod r from roof by a can 99;rod s from a by b can 1;");
        due("as much as the floor can", y.beyond(0), 0);
        y.live(1, 1);
        due("one more: where s hangs, and the nut of a", y.beyond(0), 2);
        due("where s hangs", y.joint(0, 2, 3), 1);
        due("the nut of a", y.joint(0, 1, 3), 1);
        due("the nut of b", y.joint(0, 3, 3), 0);
    }

    private static void allBeyond() {
        HungFloors x = Check.of(full(999, 1, 1));
        due("all 70", x.beyond(0), 70);
        due("where a rod hangs is the worst", x.worst(0), 0);
        HungFloors y = Check.of(full(10, 1, 6));
        due("each at what it can", y.beyond(0), 0);
        due("all alike: the first", y.worst(0), 0);
        y.live(5, 1);
        due("the nuts of f, and the rods", y.beyond(0), 20);
        due("f's first nut: 11 / 10 for 61 / 60", y.worst(0), 6);
    }

    /** "WORST: the JOINT of the greatest RATIO; of like ones the first." */
    private static void worstOfAll() {
        // 50 / 100 and 50 / 100; then 51 / 100 on one side
        HungFloors x = Check.of("floor a weighs 50 can 100 stands 0;drawing d;rod r from roof by a can 100;");
        due("like ones: the first", x.worst(0), 0);
        HungFloors y = Check.of("floor a weighs 50 can 99 stands 0;drawing d;rod r from roof by a can 100;");
        due("the nut can a little less", y.worst(0), 1);
        HungFloors z = Check.of("floor a weighs 50 can 101 stands 0;drawing d;rod r from roof by a can 100;");
        due("the nut can a little more", z.worst(0), 0);
        // 1 / 3 and 333 / 999 are alike, 333 / 998 and 334 / 999 are more
        String[] tails = {"333 can 999", "333 can 998", "334 can 999", "332 can 999"};
        int[] want = {1, 3, 3, 1};
        for (int i = 0; i < tails.length; i++) {
            HungFloors w = Check.of("floor a weighs 1 can 3 stands 0;floor b weighs " + tails[i] + " stands 0;drawing d;"
                    + "rod r from roof by a can 9999;rod s from roof by b can 9999;");
            due("1 / 3 and " + tails[i], w.worst(0), want[i]);
        }
        HungFloors v = Check.of("floor a weighs 0 can 1 stands 0;floor b weighs 0 can 9 stands 0;drawing d;"
                + "rod r from roof by a b can 7;");
        due("all bear nothing: the first", v.worst(0), 0);
        v.live(1, 1);
        due("1 / 7 and 1 / 9", v.worst(0), 0);
    }

    /** "JOINTS that are BEYOND in DRAWING 0 with nobody on any FLOOR (MOVE 0)"; "NONE without DRAWINGS". */
    private static void weakAtFirst() {
        due("at first", new HungFloors().weak(), -1);
        due("floors alone", Check.of("floor a weighs 9 can 1 stands 0;").weak(), -1);
        due("a drawing without rods", noFloors().weak(), 0);
        int[] weighs = {59, 60, 61};
        for (int i = 0; i < 3; i++) {
            HungFloors x = Check.of("floor a weighs " + weighs[i] + " can 60 stands 0;drawing d;rod r from roof by a can 60;"
                    + "drawing e;rod r from roof by a can 1;");
            due(weighs[i] + " of 60", x.weak(), i == 2 ? 2 : 0);
            x.live(0, 999);
            x.move(20);
            due("whoever is there", x.weak(), i == 2 ? 2 : 0);
            due("who is there still", x.about(10), 999);
            due("move still", x.about(5), 20);
            due("and counts elsewhere", x.beyond(0), 2);
        }
        due("all 70", Check.of(full(999, 1, 1)).weak(), 70);
    }

    /** "OPEN ones (what 0), DOUBLE ones (1), FLOORS as bits; NONE if one can't be." */
    private static void openAndDouble() {
        for (int what : new int[] {-1, 2, 3, MIN, MAX}) {
            Seen.leavesAll("floors(1, " + what + ")", BearEdgesTest::walk, x -> x.floors(1, what), -1);
        }
        for (int d : new int[] {-1, 3, 4, MIN, MAX}) {
            Seen.leavesAll("floors(" + d + ", 0)", BearEdgesTest::walk, x -> x.floors(d, 0), -1);
            Seen.leavesAll("floors(" + d + ", 1)", BearEdgesTest::walk, x -> x.floors(d, 1), -1);
        }
        due("no floors: open", noFloors().floors(0, 0), 0);
        due("no floors: double", noFloors().floors(0, 1), 0);
        due("no rods: all are open", walk().floors(2, 0), 3);
        due("no rods: none is double", walk().floors(2, 1), 0);
        due("six in a chain: open", Check.of(chain(1, 1, 1)).floors(0, 0), 0);
        due("six in a chain: all but the last are double", Check.of(chain(1, 1, 1)).floors(0, 1), 31);
        due("held by ten, none hangs from them", Check.of(full(1, 1, 1)).floors(0, 1), 0);
        String six = Houses.sixFloors(1, 1) + "drawing a;";
        HungFloors x = Check.of(six);
        due("six open", x.floors(0, 0), 63);
        HungFloors y = Check.of(six + "rod r from a by b can 1;"
                + "rod s from b by f can 1;rod t from c by f can 1;");
        due("a, c, d, e are open", y.floors(0, 0), 1 | 4 | 8 | 16);
        due("b alone is double: a and c are open", y.floors(0, 1), 2);
        HungFloors z = Check.of(six + "rod r from a by b can 1;"
                + "rod s from roof by a can 1;");
        due("a, of which the first rod hangs, is double", z.floors(0, 1), 1);
    }

    public static void main(String[] args) {
        liveRefused();
        liveTaken();
        moving();
        howManyJoints();
        whichJoint();
        whatJointsCan();
        parts();
        bearsNothing();
        bearsMost();
        shares();
        openFloors();
        justBeyond();
        allBeyond();
        worstOfAll();
        weakAtFirst();
        openAndDouble();
        Check.finish();
    }
}
