/** For each promise of the document ordinary inputs, the edges that it names, and wrong inputs; reckoned by hand. */
public final class PromisesTest {
    private static final String WALK = Houses.TWO_DRAWINGS;
    /** Floor a is open; b hangs from it by one rod, c from b by three. */
    private static final String DEEP =
            "floor a weighs 10 can 9999 stands 0;floor b weighs 20 can 9999 stands 0;floor c weighs 7 can 9999 stands 3;"
            + "drawing d;rod x from a by b can 1;rod y from b by c can 1;rod z from b by c can 1;rod w from a by c can 1;";

    private static void due(String call, long got, long want) {
        Check.due(call, got, want);
    }

    private static void due(String call, boolean got, boolean want) {
        Check.due(call, got, want);
    }

    private static void p01NewObject() {
        HungFloors x = new HungFloors();
        for (int what = -2; what < 20; what++) {
            due("1: about(" + what + ")", x.about(what), what >= 0 && what <= 5 ? 0 : -1);
        }
        due("1: fault(0)", x.fault(0), 0);
        due("1: fault(1)", x.fault(1), -1);
        due("1: joints(0)", x.joints(0), -1);
        due("1: rule(1)", x.rule(1), 0);
        due("1: house() of nothing", x.house(), 0);
        due("1: NONE", HungFloors.NONE, -1);
    }

    private static void p02Feed() {
        HungFloors x = new HungFloors();
        for (int i = 1; i <= 80; i++) {
            due("2: feed", x.feed(-1, 0, 1, Integer.MIN_VALUE, Integer.MAX_VALUE), 20 * i);
        }
        due("2: feed of too much", x.feed(1, 2, 3, 4, 5), -1);
        due("2: about(4)", x.about(4), 1600);
        x.end(1581);
        due("2: feed of one too many", x.feed(1, 2, 3, 4, 5), -1);
        due("2: about(4)", x.about(4), 1581);
        x.end(1580);
        due("2: feed up to the last", x.feed(1, 2, 3, 4, 5), 1600);
        HungFloors y = new HungFloors();
        y.feed('d' << 24 | 'r' << 16 | 'a' << 8 | 'w', 'i' << 24 | 'n' << 16 | 'g' << 8 | ' ',
                'a' << 24 | ';' << 16 | ' ' << 8 | '\n', 0x20202020, 0x2020203b);
        due("2: the highest first", y.house(), -1);
        due("2: fault", y.fault(0), 2);
        due("2: the last byte", y.fault(1), 19);
        y.end(19);
        due("2: without it", y.house(), 1);
        // a blank and the line's end alone part tokens; a byte of 128 or more is none
        HungFloors z = new HungFloors();
        z.feed(0x200a200a, 0x200a2020, 0xff202020, 0x20202020, 0x20202020);
        due("2: house()", z.house(), -1);
        due("2: no token", z.fault(0), 1);
        due("2: its place", z.fault(1), 8);
    }

    private static void p03End() {
        HungFloors x = new HungFloors();
        due("3: end(0)", x.end(0), 0);
        due("3: end(1)", x.end(1), -1);
        x.feed(0, 0, 0, 0, 0);
        due("3: end(-1)", x.end(-1), -1);
        due("3: end(21)", x.end(21), -1);
        due("3: end(max)", x.end(Integer.MAX_VALUE), -1);
        due("3: end(min)", x.end(Integer.MIN_VALUE), -1);
        due("3: about(4)", x.about(4), 20);
        due("3: end(20)", x.end(20), 20);
        due("3: end(7)", x.end(7), 7);
        due("3: end(8)", x.end(8), -1);
        due("3: about(4)", x.about(4), 7);
        due("3: feed", x.feed(0, 0, 0, 0, 0), 27);
    }

    private static void p04House() {
        HungFloors x = Check.of(WALK);
        due("4: about(4)", x.about(4), 0);
        x.live(0, 5);
        x.move(3);
        x.paper(0, 0, 0, 1, true);
        x.later(4);
        due("4: a fault", Check.tell(x, "drawing a"), -1);
        due("4: all stays, the tape", x.about(4), 9);
        due("4: all stays, the drawings", x.about(1), 2);
        due("4: all stays, the floors", x.about(0), 2);
        due("4: all stays, live", x.about(10), 5);
        due("4: all stays, move", x.about(5), 3);
        due("4: all stays, the papers", x.about(2), 1);
        due("4: all stays, the joints", x.joints(1), 8);
        Check.tape(x, ";");
        due("4: house()", x.house(), 1);
        due("4: the tape", x.about(4), 0);
        due("4: the papers", x.about(2), 0);
        due("4: the floors", x.about(0), 0);
        due("4: live", x.about(10), -1);
        due("4: move", x.about(5), 0);
        due("4: the time goes on", x.about(3), 4);
        due("4: joints(0)", x.joints(0), 0);
        due("4: joints(1)", x.joints(1), -1);
        due("4: the first again", Check.tell(x, WALK), 2);
        due("4: nobody is there", x.about(10), 0);
        due("4: of the empty tape", x.house(), 0);
        due("4: no floors", x.about(0), 0);
        due("4: floors alone", Check.tell(x, "floor a weighs 0 can 1 stands 0;"), 0);
        due("4: floors alone", x.about(0), 1);
    }

    private static void p04Stories() {
        HungFloors x = Check.of(WALK);
        x.paper(0, 0, 0, 1, true);
        x.story(0, 9, 1);
        Check.tell(x, WALK);
        due("4: no story is left", x.believed(1, 0), 2);
        x.paper(0, 0, 0, 1, true);
        due("4: the number is free again", x.story(0, 9, 1), true);
    }

    private static void faulty(String text, int kind, int place) {
        HungFloors x = new HungFloors();
        int got = Check.tell(x, text);
        due("5: house() of " + text, got, kind == 0 ? Math.max(got, 0) : -1);
        due("5: fault(0) of " + text, x.fault(0), kind);
        due("5: fault(1) of " + text, x.fault(1), place);
        due("5: fault(2)", x.fault(2), -1);
        due("5: fault(-1)", x.fault(-1), -1);
    }

    private static void p05Fault() {
        String f = "floor a weighs 1 can 1 stands 1;";
        String six = "";
        for (char c = 'a'; c <= 'f'; c++) {
            six += "floor " + c + " weighs 0 can 1 stands 0;";
        }
        faulty("", 0, -1);
        faulty(" \n ", 0, -1);
        String cut = "\n\nfloor\na\nweighs0001 can\n0001 stands 9 ; drawing a;rod a from a";
        faulty(cut, 2, cut.length());
        faulty("?", 1, 0);
        faulty("floor A", 1, 6);
        faulty("floor\ta", 1, 5);
        faulty(",", 1, 0);
        faulty("a", 2, 0);
        faulty("1", 2, 0);
        faulty(";", 2, 0);
        faulty(f + ";", 2, f.length());
        faulty("weighs", 2, 0);
        faulty("floor", 2, 5);
        faulty("floor  ", 2, 7);
        faulty("floor 1", 2, 6);
        for (String own : new String[] {"floor", "weighs", "can", "stands", "drawing", "rod", "from", "roof", "by"}) {
            faulty("floor " + own, 2, 6);
            faulty("drawing " + own + ";", 2, 8);
        }
        faulty("floor a weigh 1", 2, 8);
        faulty("floor a weighs", 2, 14);
        faulty("floor a weighs a", 2, 15);
        faulty("floor a weighs 1000", 4, 15);
        faulty("floor a weighs 999 can 0", 4, 23);
        faulty("floor a weighs 999 can 9999 stands 10", 4, 35);
        faulty("floor a weighs 999 can 9999 stands 9", 2, 36);
        faulty("floor a weighs 999 can 9999 stands 9;", 0, -1);
        faulty("floor a weighs 1 stands", 2, 17);
        faulty(f + f, 3, f.length() + 6);
        faulty(six, 0, -1);
        faulty(six + "floor g", 2, six.length());
        faulty(six + "drawing z;floor", 2, six.length() + 10);
        faulty("drawing a;floor b", 2, 10);
        faulty("drawing a;drawing b;drawing c;drawing d;", 0, -1);
        faulty("drawing a;drawing b;drawing c;drawing d;drawing e", 2, 40);
        faulty("drawing a;drawing a", 3, 18);
        faulty("rod", 2, 0);
        faulty(f + "rod", 2, f.length());
        faulty(f + "drawing a;drawing b;", 0, -1);
    }

    private static void p05RodFaults() {
        String h = "floor a weighs 1 can 1 stands 1;floor b weighs 1 can 1 stands 1;drawing a;";
        int n = h.length();
        faulty(h + "rod a from roof by a b can 1;", 0, -1);
        faulty(h + "rod a from a by b can 9999;", 0, -1);
        faulty(h + "rod a from roof by a b can 0;", 4, n + 27);
        faulty(h + "rod a from c", 5, n + 11);
        faulty(h + "rod a from by", 2, n + 11);
        faulty(h + "rod a from 1", 2, n + 11);
        faulty(h + "rod a by a", 2, n + 6);
        faulty(h + "rod a;", 2, n + 5);
        faulty(h + "rod a from;", 2, n + 10);
        faulty(h + "rod a from a;", 2, n + 12);
        faulty(h + "rod a from a by;", 2, n + 15);
        faulty(h + "rod a from a by b;", 2, n + 17);
        faulty(h + "rod a from a by b can;", 2, n + 21);
        faulty(h + "rod a from roof can", 2, n + 16);
        faulty(h + "rod a from roof by can 1", 2, n + 19);
        faulty(h + "rod a from roof by roof", 2, n + 19);
        faulty(h + "rod a from roof by c", 5, n + 19);
        faulty(h + "rod a from roof by a c", 5, n + 21);
        faulty(h + "rod a from a by a", 6, n + 16);
        faulty(h + "rod a from b by a", 6, n + 16);
        faulty(h + "rod a from roof by b a", 6, n + 21);
        faulty(h + "rod a from roof by a a", 6, n + 21);
        faulty(h + "rod a from roof by a;", 2, n + 20);
        faulty(h + "rod a from roof by a b", 2, n + 22);
        faulty(h + "rod roof", 2, n + 4);
        String rod = "rod r from roof by a can 1;";
        faulty(h + rod + rod, 3, n + 31);
        faulty(h + rod + "drawing b;" + rod, 0, -1);
        String ten = "";
        for (char c = 'a'; c <= 'j'; c++) {
            ten += "rod " + c + " from roof by a can 1;";
        }
        faulty(h + ten, 0, -1);
        faulty(h + ten + "rod k", 2, n + ten.length());
        faulty(h + ten + "drawing b;" + rod, 0, -1);
    }

    /** Tokens: each as long as can be, of 8 letters or 4 digits at most; no letter directly behind a number. */
    private static void p05Tokens() {
        faulty("drawing abcdefgh;", 0, -1);
        faulty("drawing abcdefghi;", 1, 8);
        faulty("drawinga;", 2, 0);
        faulty("drawingab", 1, 0);
        faulty("floor a weighs0can", 1, 14);
        faulty("floor a weighs 0can", 1, 15);
        faulty("floor a weighs 0 can9999stands", 1, 20);
        faulty("floor a weighs 00000", 1, 15);
        faulty("floor a weighs 0000 can 99991", 1, 24);
        faulty("floor a weighs 10000", 1, 15);
        faulty("floor a weighs0\ncan1\nstands0;drawing a;", 0, -1);
    }

    private static void p06Live() {
        HungFloors x = Check.of(WALK);
        due("6: live(0, 999)", x.live(0, 999), true);
        due("6: live(1, 0)", x.live(1, 0), true);
        due("6: live(0, 1000)", x.live(0, 1000), false);
        due("6: live(0, -1)", x.live(0, -1), false);
        due("6: live(-1, 1)", x.live(-1, 1), false);
        due("6: live(2, 1)", x.live(2, 1), false);
        due("6: live(max, 1)", x.live(Integer.MAX_VALUE, 1), false);
        due("6: about(10)", x.about(10), 999);
        due("6: about(11)", x.about(11), 0);
        due("6: weight", x.weight(0, 0, 0), 1099);
    }

    private static void p07Move() {
        HungFloors x = Check.of(WALK);
        x.live(0, 1);
        due("7: move(20)", x.move(20), true);
        due("7: weight", x.weight(0, 0, 0), 103);
        due("7: move(21)", x.move(21), false);
        due("7: move(-1)", x.move(-1), false);
        due("7: about(5)", x.about(5), 20);
        due("7: move(1)", x.move(1), true);
        due("7: weight", x.weight(0, 0, 0), 1011);
        due("7: weight", x.weight(0, 0, 1), 10);
        due("7: move(0)", x.move(0), true);
        due("7: weight", x.weight(0, 0, 0), 101);
        due("7: a house with no floor moves", Check.tell(x, "") == 0 && x.move(5), true);
    }

    private static void p08Joints() {
        HungFloors x = Check.of(WALK + "drawing c;");
        due("8: joints(0)", x.joints(0), 6);
        due("8: joints(1)", x.joints(1), 8);
        due("8: joints(2)", x.joints(2), 0);
        due("8: joints(3)", x.joints(3), -1);
        due("8: joints(-1)", x.joints(-1), -1);
    }

    private static void p09Joint() {
        HungFloors x = Check.of(WALK);
        int[][] want = {
            {0, -1, 200, 0}, {0, 0, 60, 1}, {1, -1, 200, 0}, {1, 0, 60, 1},
            {2, -1, 60, 0}, {2, 1, 60, 0}, {3, -1, 60, 0}, {3, 1, 60, 0}};
        for (int j = 0; j < 8; j++) {
            for (int what = 0; what < 4; what++) {
                due("9: joint(1, " + j + ", " + what + ")", x.joint(1, j, what), want[j][what]);
            }
        }
        due("9: what 4", x.joint(1, 0, 4), -1);
        due("9: what -1", x.joint(1, 0, -1), -1);
        due("9: joint 8", x.joint(1, 8, 0), -1);
        due("9: joint -1", x.joint(1, -1, 0), -1);
        due("9: drawing 2", x.joint(2, 0, 0), -1);
        // a joint that bears just what it can is not beyond: 60 on each nut
        x.live(0, 20);
        due("9: at the edge", x.joint(0, 1, 3), 0);
        x.live(0, 21);
        due("9: above it", x.joint(0, 1, 3), 1);
    }

    private static void p10Bears() {
        // c: 7, by three rods; b: 20 + 14/3, by one; w: 7/3; a: 10 + 74/3 + 7/3
        HungFloors x = Check.of(DEEP);
        long[][] want = {{74, 3}, {74, 3}, {7, 3}, {7, 3}, {7, 3}, {7, 3}, {7, 3}, {7, 3}};
        for (int j = 0; j < 8; j++) {
            due("10: bears(0, " + j + ", 0)", x.bears(0, j, 0), want[j][0]);
            due("10: bears(0, " + j + ", 1)", x.bears(0, j, 1), want[j][1]);
        }
        due("10: part 2", x.bears(0, 0, 2), -1);
        due("10: part -1", x.bears(0, 0, -1), -1);
        due("10: joint 8", x.bears(0, 8, 0), -1);
        due("10: joint -1", x.bears(0, -1, 0), -1);
        due("10: drawing 1", x.bears(1, 0, 0), -1);
        HungFloors y = Check.of("floor a weighs 0 can 1 stands 0;drawing a;rod a from roof by a can 1;");
        due("10: nothing", y.bears(0, 0, 0), 0);
        due("10: by 1", y.bears(0, 0, 1), 1);
        y.live(0, 3);
        y.move(5);
        due("10: 9 / 2", y.bears(0, 1, 0), 9);
        due("10: 9 / 2", y.bears(0, 1, 1), 2);
    }

    private static void p11Weight() {
        HungFloors x = Check.of(DEEP);
        due("11: c", x.weight(0, 2, 0), 7);
        due("11: b", x.weight(0, 1, 0), 74);
        due("11: b", x.weight(0, 1, 1), 3);
        due("11: a", x.weight(0, 0, 0), 37);
        due("11: a", x.weight(0, 0, 1), 1);
        due("11: floor 3", x.weight(0, 3, 0), -1);
        due("11: floor -1", x.weight(0, -1, 0), -1);
        due("11: drawing 1", x.weight(1, 0, 0), -1);
        due("11: part 2", x.weight(0, 0, 2), -1);
        due("11: part -1", x.weight(0, 0, -1), -1);
    }

    private static void p12Beyond() {
        HungFloors x = Check.of(WALK + "drawing c;");
        due("12: beyond(0)", x.beyond(0), 0);
        due("12: beyond(1)", x.beyond(1), 2);
        due("12: beyond(2)", x.beyond(2), 0);
        due("12: beyond(3)", x.beyond(3), -1);
        due("12: beyond(-1)", x.beyond(-1), -1);
        x.live(1, 21);
        due("12: beyond(0)", x.beyond(0), 2);
        due("12: beyond(1)", x.beyond(1), 6);
    }

    private static void p13Worst() {
        HungFloors x = Check.of(WALK + "drawing c;");
        due("13: like ones, the first", x.worst(0), 1);
        due("13: worst(1)", x.worst(1), 1);
        due("13: no joints", x.worst(2), -1);
        due("13: worst(3)", x.worst(3), -1);
        due("13: worst(-1)", x.worst(-1), -1);
        x.live(1, 1);
        due("13: worst(0)", x.worst(0), 2);
        HungFloors y = Check.of("floor a weighs 0 can 1 stands 0;drawing a;rod a from roof by a can 1;");
        due("13: where all bear nothing", y.worst(0), 0);
        // 50 of 101 is a lower ratio than 50 of 100, though both bear the same
        HungFloors z = Check.of("floor a weighs 50 can 100 stands 0;drawing a;rod a from roof by a can 101;");
        due("13: by ratio", z.worst(0), 1);
    }

    private static void p14Fall() {
        HungFloors x = Check.of(WALK);
        due("14: nothing falls", x.fall(0, 0), 0);
        due("14: nothing goes", x.fall(0, 1), 0);
        due("14: both fall", x.fall(1, 0), 3);
        due("14: by two", x.fall(1, 1), 2);
        due("14: what 2", x.fall(1, 2), -1);
        due("14: what -1", x.fall(1, -1), -1);
        due("14: drawing 2", x.fall(2, 0), -1);
        due("14: drawing -1", x.fall(-1, 1), -1);
        due("14: the drawing is whole", x.beyond(1), 2);
        // where a rod hangs from a floor that is open, only what it holds falls
        HungFloors y = Check.of("floor a weighs 9 can 5 stands 0;floor b weighs 9 can 99 stands 0;"
                + "drawing d;rod r from a by b can 1;");
        due("14: floor b", y.fall(0, 0), 2);
        due("14: where it hangs", y.goes(0, 0), 0);
        // as the nut goes, the rod bears nothing and stays
        HungFloors z = Check.of("floor a weighs 9 can 5 stands 0;drawing d;rod r from roof by a can 1000;");
        due("14: floor a", z.fall(0, 0), 1);
        due("14: the nut", z.goes(0, 0), 1);
        due("14: and no more", z.fall(0, 1), 1);
    }

    private static void p15Goes() {
        HungFloors x = Check.of(WALK);
        due("15: goes(1, 0)", x.goes(1, 0), 1);
        due("15: goes(1, 1)", x.goes(1, 1), 3);
        due("15: goes(1, 2)", x.goes(1, 2), -1);
        due("15: goes(1, -1)", x.goes(1, -1), -1);
        due("15: goes(1, min)", x.goes(1, Integer.MIN_VALUE), -1);
        due("15: goes(0, 0)", x.goes(0, 0), -1);
        due("15: goes(2, 0)", x.goes(2, 0), -1);
        due("15: goes(-1, 0)", x.goes(-1, 0), -1);
        // The upper floor loses its weakest hold first, then the share of the other is too much; what hangs
        // from it goes with it, but c is held by its own rod, too, which then bears 30 of 30.
        HungFloors y = Check.of("floor a weighs 40 can 29 stands 0;floor b weighs 30 can 100 stands 0;"
                + "drawing d;rod p from roof by a can 25;rod q from roof by a can 28;"
                + "rod k from a by b can 9;rod m from roof by b can 30;");
        due("15: p bears 55 / 2", y.bears(0, 0, 0), 55);
        due("15: p goes", y.goes(0, 0), 0);
        due("15: then q: 55 of 28", y.goes(0, 1), 2);
        due("15: and no more", y.goes(0, 2), -1);
        due("15: a has fallen", y.fall(0, 0), 1);
    }

    private static void p16Change() {
        HungFloors x = Check.of(WALK + "drawing c;rod r from roof by l can 1;");
        int[][] want = {{2, 2, 2, 4}, {0, 0, 4, 4}, {0, 0, 4, 2}};
        for (int what = 0; what < 4; what++) {
            due("16: change(0, 1, " + what + ")", x.change(0, 1, what), want[0][what]);
            due("16: change(1, 0, " + what + ")", x.change(1, 0, what), want[1][what]);
        }
        // in c: r bears 100 as in a; its nut of l bears 100 for 50
        due("16: more", x.change(0, 2, 0), 1);
        due("16: twice", x.change(0, 2, 1), 1);
        due("16: left", x.change(0, 2, 2), 4);
        due("16: the same", x.change(0, 2, 3), 2);
        due("16: left of c", x.change(2, 1, 2), 1);
        due("16: what 4", x.change(0, 1, 4), -1);
        due("16: what -1", x.change(0, 1, -1), -1);
        due("16: from 3", x.change(3, 1, 0), -1);
        due("16: to 3", x.change(0, 3, 0), -1);
        due("16: from -1", x.change(-1, 1, 0), -1);
        due("16: to -1", x.change(0, -1, 0), -1);
        HungFloors y = Check.of("floor a weighs 0 can 1 stands 0;drawing a;rod a from roof by a can 1;"
                + "drawing b;rod a from roof by a can 1;");
        due("16: twice nothing is not twice", y.change(0, 1, 1), 0);
        // a: 30 each by three rods, 45 by two; b: 30 more on r
        HungFloors z = Check.of("floor a weighs 90 can 1 stands 0;floor b weighs 30 can 1 stands 0;"
                + "drawing a;rod r from roof by a b can 1;rod s from roof by a can 1;rod t from roof by a can 1;"
                + "drawing b;rod r from roof by a can 1;rod s from roof by a can 1;");
        due("16: nuts 45 for 30, s 45 for 30; r 45 for 60", z.change(0, 1, 0), 3);
        due("16: none twice", z.change(0, 1, 1), 0);
        due("16: r alone bears more", z.change(1, 0, 0), 1);
        HungFloors w = Check.of("floor c weighs 30 can 1 stands 0;"
                + "drawing a;rod r from roof by c can 1;rod s from roof by c can 1;rod t from roof by c can 1;"
                + "rod p from roof by c can 1;"
                + "drawing b;rod r from roof by c can 1;rod s from roof by c can 1;rod t from roof by c can 1;"
                + "drawing c;rod r from roof by c can 1;rod s from roof by c can 1;");
        due("16: 10 for 15 / 2", w.change(0, 1, 1), 0);
        due("16: 15 for 15 / 2", w.change(0, 2, 1), 4);
        due("16: 15 for 10", w.change(1, 2, 1), 0);
        due("16: 15 for 10", w.change(1, 2, 0), 4);
    }

    private static void p17Weak() {
        HungFloors x = Check.of("floor a weighs 61 can 60 stands 0;drawing a;rod r from roof by a can 60;"
                + "drawing b;rod r from roof by a can 60;rod s from roof by a can 60;");
        due("17: weak", x.weak(), 2);
        HungFloors y = Check.of(WALK);
        y.live(0, 900);
        y.move(20);
        due("17: with nobody on it", y.weak(), 0);
        due("17: though", y.beyond(0), 4);
        due("17: without drawings", Check.tell(y, "floor a weighs 1 can 1 stands 1;") == 0 ? y.weak() : 9, -1);
    }

    private static void p18Floors() {
        HungFloors x = Check.of(DEEP + "drawing e;rod r from roof by a c can 1;");
        due("18: open in d", x.floors(0, 0), 1);
        due("18: double in d", x.floors(0, 1), 2);
        due("18: open in e", x.floors(1, 0), 2);
        due("18: double in e", x.floors(1, 1), 0);
        due("18: what 2", x.floors(0, 2), -1);
        due("18: what -1", x.floors(0, -1), -1);
        due("18: drawing 2", x.floors(2, 0), -1);
        due("18: drawing -1", x.floors(-1, 1), -1);
    }

    private static void p19Mend() {
        HungFloors x = Check.of(WALK);
        due("19: two", x.mend(1, 0), 2);
        due("19: t and v", x.mend(1, 1), 12);
        due("19: none needed", x.mend(0, 0), 0);
        due("19: none needed", x.mend(0, 1), 0);
        x.live(0, 200);
        due("19: none are enough", x.mend(1, 0), -1);
        due("19: none are enough", x.mend(1, 1), -1);
        due("19: what 2", x.mend(0, 2), -1);
        due("19: what -1", x.mend(0, -1), -1);
        due("19: drawing 2", x.mend(2, 0), -1);
        due("19: drawing -1", x.mend(-1, 0), -1);
        // either of two rods is enough: the one of the least number; one that can little is not
        HungFloors y = Check.of("floor a weighs 10 can 45 stands 0;floor b weighs 60 can 45 stands 0;"
                + "drawing d;rod r from roof by a can 99;rod s from a by b can 5;rod t from a by b can 30;"
                + "rod u from a by b can 30;");
        due("19: beyond", y.beyond(0), 1);
        due("19: one does not do", y.mend(0, 0), 2);
        due("19: t and u", y.mend(0, 1), 12);
        HungFloors z = Check.of("floor a weighs 10 can 45 stands 0;floor b weighs 60 can 45 stands 0;"
                + "drawing d;rod r from roof by a can 99;rod t from a by b can 30;rod u from a by b can 30;");
        due("19: one", z.mend(0, 0), 1);
        due("19: the least", z.mend(0, 1), 2);
    }

    private static void p20Odds() {
        HungFloors x = Check.of(WALK);
        // each weighs 3, a floor can take 20: 7 or more of ten on one of two floors: 2 * (120 + 45 + 10 + 1) of 1024
        due("20: upper", x.odds(0, 10, 20, 0), 11);
        due("20: lower", x.odds(0, 10, 20, 1), 32);
        x.live(0, 900);
        x.move(20);
        due("20: nobody else is there", x.odds(0, 10, 20, 0), 11);
        due("20: n 0", x.odds(0, 0, 20, 0), 0);
        due("20: n 0", x.odds(0, 0, 20, 1), 1);
        due("20: surely", x.odds(1, 10, 0, 0), 1);
        due("20: surely", x.odds(1, 10, 0, 1), 1);
        due("20: n -1", x.odds(0, -1, 0, 0), -1);
        due("20: n 11", x.odds(0, 11, 0, 0), -1);
        due("20: m -1", x.odds(0, 1, -1, 0), -1);
        due("20: m 21", x.odds(0, 1, 21, 0), -1);
        due("20: part 2", x.odds(0, 1, 0, 2), -1);
        due("20: part -1", x.odds(0, 1, 0, -1), -1);
        due("20: drawing 2", x.odds(2, 1, 0, 0), -1);
        due("20: drawing -1", x.odds(-1, 1, 0, 0), -1);
        HungFloors y = Check.of("floor a weighs 1 can 1 stands 0;drawing a;rod r from roof by a can 1;");
        due("20: nowhere to stand", y.odds(0, 1, 0, 0), -1);
        due("20: and nobody", y.odds(0, 0, 0, 1), 1);
        due("20: no floors", Check.tell(y, "drawing a;") == 1 ? y.odds(0, 1, 0, 0) : 9, -1);
        due("20: no floors, nobody", y.odds(0, 0, 0, 0), 0);
        // one of three places is on b, which holds nobody: 1 - (2/3) ** 2
        HungFloors z = Check.of("floor a weighs 1 can 9 stands 2;floor b weighs 1 can 1 stands 1;"
                + "drawing a;rod r from roof by a b can 99;");
        due("20: 5 / 9", z.odds(0, 2, 0, 0), 5);
        due("20: 5 / 9", z.odds(0, 2, 0, 1), 9);
    }

    /** As many ways as there can be: 54 ** 10. */
    private static void p20OddsOfMany() {
        StringBuilder s = new StringBuilder();
        for (char c = 'a'; c <= 'f'; c++) {
            s.append("floor ").append(c).append(" weighs 0 can ").append(c == 'f' ? 9 : 9999).append(" stands 9;");
        }
        s.append("drawing a;rod r from roof by a b c d e f can 9999;");
        HungFloors x = Check.of(s.toString());
        due("20: all ten on f", x.odds(0, 10, 0, 0), 1);
        due("20: of 6 ** 10", x.odds(0, 10, 0, 1), 60466176);
    }

    private static void p21Most() {
        HungFloors x = Check.of(WALK);
        due("21: most(0, 0)", x.most(0, 0), 20);
        x.live(0, 999);
        due("21: those on it don't count", x.most(0, 0), 20);
        due("21: others do", x.most(0, 1), -1);
        due("21: about(10)", x.about(10), 999);
        due("21: beyond with nobody", x.most(1, 0), -1);
        due("21: floor 2", x.most(0, 2), -1);
        due("21: floor -1", x.most(0, -1), -1);
        due("21: drawing 2", x.most(2, 0), -1);
        due("21: drawing -1", x.most(-1, 0), -1);
        x.live(0, 0);
        x.move(5);
        due("21: 3 / 2 each", x.most(0, 0), 13);
        HungFloors y = Check.of("floor a weighs 1 can 999 stands 0;floor b weighs 1 can 1000 stands 0;"
                + "floor c weighs 1 can 1 stands 0;drawing a;rod r from roof by a can 9999;rod s from roof by b can 9999;");
        due("21: 998", y.most(0, 0), 998);
        due("21: 999", y.most(0, 1), 999);
        due("21: on the ground", y.most(0, 2), 999);
        y.live(1, 1);
        due("21: others as they are", y.most(0, 2), 999);
    }

    private static void p22Rule() {
        HungFloors x = Check.of(WALK + "drawing c;");
        // b: both rods bear 100 where they hang, and so do the nuts of u: the second of them by order is beyond
        due("22: rule", x.rule(0), 2);
        due("22: hours", x.rule(1), 4);
        due("22: what 2", x.rule(2), -1);
        due("22: what -1", x.rule(-1), -1);
        due("22: none beyond", Check.tell(x, "floor a weighs 1 can 1 stands 1;drawing a;rod r from roof by a can 1;"), 1);
        due("22: rule", x.rule(0), 0);
        due("22: hours", x.rule(1), 0);
        // r: 50, its nuts 30 and 20; the last one alone is beyond. The other drawing has two joints.
        HungFloors y = Check.of("floor a weighs 30 can 99 stands 0;floor b weighs 20 can 19 stands 0;"
                + "drawing a;rod r from roof by a b can 99;drawing c;rod s from roof by a can 99;");
        due("22: rule", y.rule(0), 3);
        due("22: hours", y.rule(1), 5);
    }

    private static void p23Elsewhere() {
        HungFloors x = Check.of(WALK + "drawing c;rod q from roof by u can 9;rod p from u by l can 9;");
        // b: nuts of u bear 100 of 60; c: the nut of u bears 200 of 60
        due("23: of c", x.elsewhere(0, 0), 201);
        due("23: of b", x.elsewhere(0, 1), 101);
        due("23: of b", x.elsewhere(0, 2), 103);
        due("23: no more", x.elsewhere(0, 3), -1);
        due("23: i -1", x.elsewhere(0, -1), -1);
        due("23: but b", x.elsewhere(1, 0), 201);
        due("23: but b", x.elsewhere(1, 1), -1);
        due("23: but c", x.elsewhere(2, 0), 101);
        due("23: but c", x.elsewhere(2, 1), 103);
        due("23: drawing 3", x.elsewhere(3, 0), -1);
        due("23: drawing -1", x.elsewhere(-1, 0), -1);
        due("23: i max", x.elsewhere(0, Integer.MAX_VALUE), -1);
    }

    private static void p23ByRatio() {
        // nuts of p, q, r bear 5 of 3, 7 of 4, 12 of 7
        String rods = "rod a from roof by p can 9;rod b from roof by q can 9;rod c from roof by r can 9;"
                + "rod d from p by s can 9;rod e from q by s can 9;rod f from r by s can 9;";
        HungFloors x = Check.of("floor p weighs 5 can 3 stands 0;floor q weighs 7 can 4 stands 0;"
                + "floor r weighs 12 can 7 stands 0;floor s weighs 0 can 9 stands 0;"
                + "drawing a;drawing b;" + rods + "drawing c;" + rods);
        int[] want = {103, 203, 105, 205, 101, 201, -1};
        for (int i = 0; i < want.length; i++) {
            due("23: by ratio, then drawing, " + i, x.elsewhere(0, i), want[i]);
        }
        StringBuilder s = new StringBuilder();
        for (char c = 'a'; c <= 'f'; c++) {
            s.append("floor ").append(c).append(" weighs 0 can 1 stands 0;");
        }
        s.append("drawing a;");
        for (char d = 'b'; d <= 'd'; d++) {
            s.append("drawing ").append(d).append(";");
            for (char c = 'a'; c <= 'e'; c++) {
                s.append("rod ").append(c).append(" from roof by a b c d e can 1;");
                s.append("rod ").append(c).append(c).append(" from ").append(c).append(" by f can 1;");
            }
        }
        HungFloors y = Check.of(s.toString());
        due("23: the first of many", y.elsewhere(0, 0), 101);
        due("23: the sixth: behind the second rod's two", y.elsewhere(0, 5), 109);
        due("23: the last of many", y.elsewhere(0, 74), 337);
        due("23: no more", y.elsewhere(0, 75), -1);
    }

    private static void p24Story() {
        HungFloors x = Check.of(WALK);
        due("24: no paper", x.story(0, 1, 1), false);
        for (int i = 0; i < 11; i++) {
            x.paper(0, 0, 0, 1, false);
        }
        due("24: a -1", x.story(0, -1, 1), false);
        due("24: a 11", x.story(0, 11, 1), false);
        due("24: b -1", x.story(0, 1, -1), false);
        due("24: b 11", x.story(0, 1, 11), false);
        due("24: paper -1", x.story(-1, 1, 1), false);
        due("24: paper 11", x.story(11, 1, 1), false);
        due("24: nothing was done", x.believed(1, 0), 2);
        HungFloors y = Check.of(WALK);
        y.paper(0, 0, 0, 1, false);
        due("24: of ten ten", y.story(0, 0, 10), true);
        due("24: of ten ten", y.believed(0, 0), 0);
        for (int i = 0; i < 9; i++) {
            due("24: story(" + i + ")", x.story(i, 10, 0), true);
            due("24: again", x.story(i, 5, 5), false);
        }
        due("24: 9 do", x.story(9, 1, 1), false);
        due("24: as told", x.believed(0, 0), 1);
        due("24: as told", x.believed(1, 0), 1);
    }

    private static void p25Believed() {
        HungFloors x = Check.of(WALK);
        due("25: without any", x.believed(0, 0), 1);
        due("25: without any", x.believed(1, 0), 2);
        due("25: part 2", x.believed(2, 0), -1);
        due("25: part -1", x.believed(-1, 0), -1);
        x.later(5);
        for (int i = 0; i < 9; i++) {
            x.paper(0, 0, 0, 1, false);
            x.story(i, 10, i == 0 ? 9 : 10);
        }
        due("25: 10 / 19", x.believed(0, 5), 10);
        due("25: 10 / 19", x.believed(1, 5), 19);
        due("25: not known yet", x.believed(1, 4), 2);
        x.later(1);
        x.untell(0);
        due("25: 1 / 2", x.believed(1, 6), 2);
        due("25: as known then", x.believed(1, 5), 19);
        HungFloors y = Check.of(WALK);
        y.paper(0, 0, 0, 1, false);
        y.paper(0, 0, 0, 1, false);
        y.story(0, 0, 7);
        due("25: 0", y.believed(0, 0), 0);
        due("25: by 1", y.believed(1, 0), 1);
        y.story(1, 3, 0);
        due("25: both are 0", y.believed(0, 0), -1);
        due("25: both are 0", y.believed(1, 0), -1);
    }

    private static void p26Paper() {
        HungFloors x = Check.of(WALK);
        due("26: office -1", x.paper(-1, 0, 0, 0, true), -1);
        due("26: office 6", x.paper(6, 0, 0, 0, true), -1);
        due("26: day -1", x.paper(0, -1, 0, 0, true), -1);
        due("26: day 100", x.paper(0, 100, 0, 0, true), -1);
        due("26: drawing -1", x.paper(0, 0, -1, 0, true), -1);
        due("26: drawing 2", x.paper(0, 0, 2, 0, true), -1);
        due("26: hours -1", x.paper(0, 0, 0, -1, true), -1);
        due("26: hours 100", x.paper(0, 0, 0, 100, true), -1);
        due("26: none yet", x.about(2), 0);
        due("26: the first", x.paper(5, 99, 1, 99, true), 0);
        x.untell(0);
        for (int i = 1; i < 60; i++) {
            due("26: paper", x.paper(0, 0, 0, 0, false), i);
        }
        due("26: the 61st", x.paper(0, 0, 0, 0, false), -1);
        due("26: about(2)", x.about(2), 60);
    }

    private static void p27Untell() {
        HungFloors x = Check.of(WALK);
        due("27: none such", x.untell(0), false);
        x.paper(1, 3, 0, 4, false);
        due("27: -1", x.untell(-1), false);
        due("27: 1", x.untell(1), false);
        due("27: at the same time", x.untell(0), true);
        due("27: already", x.untell(0), false);
        due("27: never known", x.spent(1, 0, 3, 0), 0);
        x.paper(1, 3, 0, 4, false);
        x.later(3);
        x.untell(1);
        due("27: known then", x.spent(1, 0, 3, 2), 4);
        due("27: not now", x.spent(1, 0, 3, 3), 0);
        x.later(1);
        due("27: already", x.untell(1), false);
        due("27: known then still", x.spent(1, 0, 3, 2), 4);
        due("27: not from 3 on", x.spent(1, 0, 3, 3), 0);
    }

    private static void p28Later() {
        HungFloors x = new HungFloors();
        due("28: later(0)", x.later(0), 0);
        due("28: later(-1)", x.later(-1), -1);
        due("28: later(1001)", x.later(1001), -1);
        due("28: later(max)", x.later(Integer.MAX_VALUE), -1);
        for (int i = 1; i <= 99; i++) {
            due("28: later(1000)", x.later(1000), 1000 * i);
        }
        due("28: later(999)", x.later(999), 99999);
        due("28: later(2)", x.later(2), -1);
        due("28: later(1)", x.later(1), 100000);
        due("28: later(1)", x.later(1), -1);
        due("28: later(0)", x.later(0), 100000);
        due("28: about(3)", x.about(3), 100000);
    }

    private static void p29Spent() {
        HungFloors x = Check.of(WALK);
        x.paper(1, 10, 0, 4, false);
        x.paper(1, 12, 0, 5, true);
        x.paper(1, 11, 1, 7, true);
        x.paper(2, 11, 0, 8, true);
        due("29: day 9", x.spent(1, 0, 9, 0), 0);
        due("29: day 10", x.spent(1, 0, 10, 0), 4);
        due("29: day 99", x.spent(1, 0, 99, 0), 9);
        due("29: drawing 1", x.spent(1, 1, 99, 0), 7);
        due("29: office 2", x.spent(2, 0, 99, 0), 8);
        due("29: before", x.spent(1, 0, 99, -1), 0);
        due("29: later", x.spent(1, 0, 99, Integer.MAX_VALUE), 9);
        due("29: office -1", x.spent(-1, 0, 0, 0), -1);
        due("29: office 6", x.spent(6, 0, 0, 0), -1);
        due("29: drawing -1", x.spent(0, -1, 0, 0), -1);
        due("29: drawing 2", x.spent(0, 2, 0, 0), -1);
        due("29: day -1", x.spent(0, 0, -1, 0), -1);
        due("29: day 100", x.spent(0, 0, 100, 0), -1);
    }

    private static void p30Saw() {
        HungFloors x = Check.of(WALK);
        due("30: nobody", x.saw(1, 0, 0), -1);
        x.paper(3, 20, 1, 5, false);
        x.paper(3, 9, 1, 3, false);
        due("30: eight hours by day 20", x.saw(1, 0, 0), 20);
        due("30: office 3", x.saw(1, 1, 0), 3);
        x.paper(4, 8, 1, 7, false);
        due("30: one hour short", x.saw(1, 0, 0), 20);
        x.later(1);
        x.paper(1, 20, 1, 99, false);
        due("30: of one day", x.saw(1, 0, 1), 20);
        due("30: the least", x.saw(1, 1, 1), 1);
        due("30: as known before", x.saw(1, 1, 0), 3);
        x.paper(0, 0, 0, 99, false);
        due("30: nothing is beyond", x.saw(0, 0, 1), -1);
        x.live(0, 30);
        due("30: now it is", x.saw(0, 0, 1), 0);
        due("30: what 2", x.saw(1, 2, 1), -1);
        due("30: what -1", x.saw(1, -1, 1), -1);
        due("30: drawing 2", x.saw(2, 0, 1), -1);
        due("30: drawing -1", x.saw(-1, 0, 1), -1);
        due("30: before all", x.saw(1, 0, -1), -1);
        HungFloors y = Check.of(WALK);
        y.paper(5, 40, 1, 8, false);
        y.paper(2, 30, 1, 8, false);
        y.paper(0, 50, 1, 8, false);
        y.paper(4, 30, 1, 8, false);
        y.paper(3, 35, 1, 8, false);
        due("30: the first day", y.saw(1, 0, 0), 30);
        due("30: who", y.saw(1, 1, 0), 2);
        y.paper(1, 30, 0, 99, false);
        due("30: on that drawing", y.saw(1, 1, 0), 2);
    }

    private static void p31Hollow() {
        HungFloors x = Check.of(WALK + "drawing c;");
        due("31: none", x.hollow(0), 0);
        x.paper(0, 5, 0, 5, true);
        due("31: 5 of 6", x.hollow(0), 1);
        x.paper(0, 5, 0, 1, true);
        due("31: the sixth", x.hollow(0), 1);
        x.paper(0, 5, 0, 0, true);
        due("31: none still", x.hollow(0), 1);
        x.paper(0, 4, 0, 1, false);
        due("31: an earlier day, told later", x.hollow(0), 0);
        x.paper(1, 6, 0, 5, true);
        x.paper(0, 1, 1, 5, true);
        due("31: another office, another drawing", x.hollow(0), 2);
        x.paper(2, 1, 2, 0, true);
        due("31: no joints", x.hollow(0), 2);
        x.later(1);
        x.untell(3);
        due("31: one untold", x.hollow(1), 3);
        due("31: as known before", x.hollow(0), 2);
        due("31: before all", x.hollow(-1), 0);
        due("31: of all times", x.hollow(Integer.MIN_VALUE), 0);
        x.paper(3, 1, 0, 6, true);
        due("31: enough at once", x.hollow(1), 3);
        x.paper(4, 1, 0, 0, false);
        due("31: not stamped", x.hollow(1), 3);
        x.paper(5, 7, 0, 3, false);
        x.paper(5, 7, 0, 2, true);
        due("31: of one day, told ahead", x.hollow(1), 4);
        x.paper(5, 7, 0, 1, true);
        due("31: told behind does not count", x.hollow(1), 4);
    }

    private static void p32About() {
        HungFloors x = Check.of(WALK);
        x.live(1, 7);
        x.move(4);
        x.later(9);
        x.paper(0, 0, 0, 0, false);
        x.paper(0, 0, 0, 0, false);
        x.untell(0);
        x.feed(0, 0, 0, 0, 0);
        int[] want = {2, 2, 2, 9, 20, 4, -1, -1, -1, -1, 0, 7, -1, -1, -1, -1};
        for (int what = 0; what < want.length; what++) {
            due("32: about(" + what + ")", x.about(what), want[what]);
        }
        due("32: about(-1)", x.about(-1), -1);
        due("32: about(min)", x.about(Integer.MIN_VALUE), -1);
        due("32: about(max)", x.about(Integer.MAX_VALUE), -1);
    }

    public static void main(String[] args) {
        p01NewObject();
        p02Feed();
        p03End();
        p04House();
        p04Stories();
        p05Fault();
        p05RodFaults();
        p05Tokens();
        p06Live();
        p07Move();
        p08Joints();
        p09Joint();
        p10Bears();
        p11Weight();
        p12Beyond();
        p13Worst();
        p14Fall();
        p15Goes();
        p16Change();
        p17Weak();
        p18Floors();
        p19Mend();
        p20Odds();
        p20OddsOfMany();
        p21Most();
        p22Rule();
        p23Elsewhere();
        p23ByRatio();
        p24Story();
        p25Believed();
        p26Paper();
        p27Untell();
        p28Later();
        p29Spent();
        p30Saw();
        p31Hollow();
        p32About();
        Check.finish();
    }
}
