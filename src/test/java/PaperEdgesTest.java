/** Papers, times, stories and what is told about all (terms, ==== 4; promises 24 to 32): each boundary. */
public final class PaperEdgesTest {
    private static final int MIN = Integer.MIN_VALUE;
    private static final int MAX = Integer.MAX_VALUE;
    private static final String WALK = Houses.WALK;

    private static void due(String call, long got, long want) {
        Check.due(call, got, want);
    }

    private static HungFloors walk() {
        return Check.of(WALK);
    }

    /** Two papers, one of them untold, one that bears on the call, at time 4. */
    private static HungFloors told() {
        HungFloors x = walk();
        x.paper(1, 10, 1, 5, true);
        x.later(3);
        x.paper(2, 11, 0, 6, true);
        x.story(1, 3, 2);
        x.later(1);
        x.untell(0);
        return x;
    }

    private static HungFloors full() {
        HungFloors x = walk();
        for (int i = 0; i < 60; i++) {
            due("paper " + i, x.paper(i % 6, i, i % 3, 99, i % 2 == 0), i);
        }
        return x;
    }

    private static void noPaper(int office, int day, int drawing, int hours) {
        String name = "paper(" + office + ", " + day + ", " + drawing + ", " + hours + ", ..)";
        Seen.leavesAll(name, PaperEdgesTest::told, x -> x.paper(office, day, drawing, hours, true), -1);
        Seen.leavesAll(name, PaperEdgesTest::told, x -> x.paper(office, day, drawing, hours, false), -1);
    }

    /** "NONE, doing nothing, if it can't be, or there are 60." */
    private static void paperRefused() {
        for (int wrong : new int[] {-1, 6, 7, MIN, MAX}) {
            noPaper(wrong, 0, 0, 0);
        }
        for (int wrong : new int[] {-1, 100, 101, MIN, MAX}) {
            noPaper(0, wrong, 0, 0);
            noPaper(0, 0, 0, wrong);
        }
        for (int wrong : new int[] {-1, 3, 4, MIN, MAX}) {
            noPaper(0, 0, wrong, 0);
        }
        Seen.leavesAll("the 61st", PaperEdgesTest::full, x -> x.paper(0, 0, 0, 0, true), -1);
        Seen.leavesAll("one without drawings", HungFloors::new, x -> x.paper(0, 0, 0, 0, true), -1);
        HungFloors x = full();
        due("60 of them", x.about(2), 60);
        due("untell", Seen.bit(x.untell(59)), 1);
        due("an untold one leaves no room", x.paper(0, 0, 0, 0, true), -1);
        due("60 still", x.about(2), 60);
        due("another house", Check.tell(x, WALK), 3);
        due("room again", x.paper(0, 0, 0, 0, true), 0);
    }

    /** "An OFFICE (0 .. 5), a DAY (0 .. 99), a DRAWING, hours spent on it (0 .. 99)." */
    private static void paperTaken() {
        int[][] rows = {{0, 0, 0, 0}, {5, 99, 2, 99}, {1, 1, 1, 1}, {4, 98, 1, 98}, {0, 99, 0, 99}, {5, 0, 2, 0}};
        for (int[] row : rows) {
            HungFloors x = walk();
            String name = "paper(" + row[0] + ", " + row[1] + ", " + row[2] + ", " + row[3] + ")";
            due(name, x.paper(row[0], row[1], row[2], row[3], false), 0);
            due(name + ": about(2)", x.about(2), 1);
            due(name + ": spent by its day", x.spent(row[0], row[2], row[1], 0), row[3]);
            due(name + ": spent by 99", x.spent(row[0], row[2], 99, 0), row[3]);
            due(name + ": the day before", row[1] == 0 ? 0 : x.spent(row[0], row[2], row[1] - 1, 0), 0);
            due(name + ": another office", x.spent(5 - row[0], row[2], 99, 0), 0);
            due(name + ": another drawing", x.spent(row[0], (row[2] + 1) % 3, 99, 0), 0);
            due(name + ": the next one's number", x.paper(0, 0, 0, 0, false), 1);
        }
        HungFloors y = full();
        due("hours of office 0 on drawing 0", y.spent(0, 0, 99, 0), 990);
        HungFloors z = walk();
        for (int i = 0; i < 60; i++) {
            z.paper(3, 99, 1, 99, true);
        }
        due("all hours that there can be", z.spent(3, 1, 99, 0), 5940);
        due("the day before", z.spent(3, 1, 98, 0), 0);
    }

    /** "It is UNTOLD: true; false if it is so already, or there is none such"; "at a later one or the same". */
    private static void untold() {
        for (int paper : new int[] {0, -1, 2, 3, 60, MIN, MAX}) {
            Seen.leavesAll("untell(" + paper + ")", PaperEdgesTest::told, x -> Seen.bit(x.untell(paper)), 0);
        }
        Seen.leavesAll("untell(0) without papers", PaperEdgesTest::walk, x -> Seen.bit(x.untell(0)), 0);
        Seen.leavesAll("untell(60) of 60", PaperEdgesTest::full, x -> Seen.bit(x.untell(60)), 0);
        HungFloors x = full();
        due("untell(59) of 60", Seen.bit(x.untell(59)), 1);
        due("once more", Seen.bit(x.untell(59)), 0);
        due("its number stays", x.about(2), 60);
        HungFloors y = walk();
        y.paper(0, 0, 0, 9, false);
        y.untell(0);
        for (int k : new int[] {MIN, -1, 0, 1, MAX}) {
            due("told and untold at one time, known at " + k, y.spent(0, 0, 99, k), 0);
        }
        due("another one's number", y.paper(0, 0, 0, 7, false), 1);
        due("it counts", y.spent(0, 0, 99, 0), 7);
        HungFloors z = walk();
        z.paper(0, 0, 0, 9, false);
        z.later(5);
        z.untell(0);
        z.later(5);
        due("again, later", Seen.bit(z.untell(0)), 0);
        due("it was untold at 5", z.spent(0, 0, 99, 5), 0);
        due("not at 4", z.spent(0, 0, 99, 4), 9);
    }

    /** "So much later (0 .. 1000): the TIME; NONE, doing nothing, for another number, or ... above 100,000." */
    private static void later() {
        for (int by : new int[] {-1, -2, 1001, 1002, 100000, MIN, MAX}) {
            Seen.leavesAll("later(" + by + ")", PaperEdgesTest::told, x -> x.later(by), -1);
            Seen.leavesAll("later(" + by + ") at first", HungFloors::new, x -> x.later(by), -1);
        }
        Seen.leavesAll("later(0)", PaperEdgesTest::told, x -> x.later(0), 4);
        for (int by : new int[] {1, 999, 1000}) {
            HungFloors x = told();
            due("later(" + by + ")", x.later(by), 4 + by);
            due("about(3)", x.about(3), 4 + by);
        }
        for (int by : new int[] {2, 999, 1000}) {
            Seen.leavesAll("later(" + by + ") at 99999", PaperEdgesTest::nearTheEnd, x -> x.later(by), -1);
        }
        HungFloors y = nearTheEnd();
        due("later(0) at 99999", y.later(0), 99999);
        due("later(1) at 99999", y.later(1), 100000);
        due("later(1) at 100000", y.later(1), -1);
        due("later(1000) at 100000", y.later(1000), -1);
        due("later(0) at 100000", y.later(0), 100000);
        due("about(3)", y.about(3), 100000);
        due("a paper then", y.paper(0, 0, 0, 5, false), 0);
        due("known at 99999", y.spent(0, 0, 99, 99999), 0);
        due("known at 100000", y.spent(0, 0, 99, 100000), 5);
    }

    private static HungFloors nearTheEnd() {
        HungFloors x = walk();
        for (int i = 0; i < 99; i++) {
            x.later(1000);
        }
        due("99999", x.later(999), 99999);
        return x;
    }

    /** "TOLD at k or before, not UNTOLD at k or before": told at 3, untold at 5, in each that knows of k. */
    private static void knownInTwoTimes() {
        HungFloors x = walk();
        x.later(3);
        x.paper(2, 7, 1, 8, true);
        x.paper(1, 7, 1, 3, true);
        x.story(0, 4, 1);
        x.later(2);
        x.untell(0);
        x.untell(1);
        int[] times = {MIN, -1, 0, 2, 3, 4, 5, 6, MAX};
        for (int k : times) {
            boolean known = k == 3 || k == 4;
            due("spent at " + k, x.spent(2, 1, 99, k), known ? 8 : 0);
            due("saw at " + k, x.saw(1, 0, k), known ? 7 : -1);
            due("who at " + k, x.saw(1, 1, k), known ? 2 : -1);
            due("hollow at " + k, x.hollow(k), known ? 1 : 0);
            due("believed at " + k, x.believed(0, k), known ? 4 : 1);
            due("believed at " + k, x.believed(1, k), known ? 5 : 2);
        }
    }

    /** "SPENT; NONE if one can't be"; "up to a DAY (it, too), together". */
    private static void spent() {
        for (int wrong : new int[] {-1, 6, MIN, MAX}) {
            Seen.leavesAll("spent(" + wrong + ", 0, 0, 0)", PaperEdgesTest::told, x -> x.spent(wrong, 0, 0, 0), -1);
        }
        for (int wrong : new int[] {-1, 3, 4, MIN, MAX}) {
            Seen.leavesAll("spent(0, " + wrong + ", 0, 0)", PaperEdgesTest::told, x -> x.spent(0, wrong, 0, 0), -1);
        }
        for (int wrong : new int[] {-1, 100, MIN, MAX}) {
            Seen.leavesAll("spent(0, 0, " + wrong + ", 0)", PaperEdgesTest::told, x -> x.spent(0, 0, wrong, 0), -1);
        }
        HungFloors x = walk();
        due("nothing yet", x.spent(5, 2, 0, 0), 0);
        x.paper(5, 50, 2, 1, true);
        x.paper(5, 51, 2, 2, false);
        x.paper(5, 49, 2, 4, false);
        x.paper(5, 50, 2, 8, false);
        due("by 48", x.spent(5, 2, 48, 0), 0);
        due("by 49", x.spent(5, 2, 49, 0), 4);
        due("by 50", x.spent(5, 2, 50, 0), 13);
        due("by 51", x.spent(5, 2, 51, 0), 15);
        due("by 99", x.spent(5, 2, 99, 0), 15);
        due("by 0", x.spent(5, 2, 0, 0), 0);
    }

    /** "The first DAY by which an OFFICE spent enough hours": one hour less, as many, one more. */
    private static void sawIt() {
        int[] hours = {7, 8, 9};
        for (int i = 0; i < 3; i++) {
            HungFloors x = walk();
            x.paper(3, 40, 1, hours[i], false);
            due(hours[i] + " hours of 8: the day", x.saw(1, 0, 0), i == 0 ? -1 : 40);
            due(hours[i] + " hours of 8: who", x.saw(1, 1, 0), i == 0 ? -1 : 3);
            x.paper(3, 41, 1, 1, false);
            due("an hour more", x.saw(1, 0, 0), i == 0 ? 41 : 40);
            x.paper(4, 39, 1, 7, false);
            due("another office's seven don't help", x.saw(1, 0, 0), i == 0 ? 41 : 40);
            x.paper(3, 0, 1, 1, false);
            due("an hour on day 0", x.saw(1, 0, 0), 40);
        }
        HungFloors y = walk();
        y.paper(5, 0, 1, 8, false);
        due("day 0", y.saw(1, 0, 0), 0);
        due("office 5", y.saw(1, 1, 0), 5);
        HungFloors z = walk();
        z.paper(5, 99, 1, 8, false);
        due("day 99", z.saw(1, 0, 0), 99);
        z.paper(0, 99, 1, 8, false);
        due("of one day the least", z.saw(1, 1, 0), 0);
        z.paper(4, 98, 1, 8, false);
        due("a day before, though a greater office", z.saw(1, 1, 0), 4);
        due("and its day", z.saw(1, 0, 0), 98);
    }

    /** "A DRAWING that has a JOINT BEYOND, now"; "NONE if nobody did, nothing is BEYOND, or one can't be". */
    private static void sawNothing() {
        for (int what : new int[] {-1, 2, 3, MIN, MAX}) {
            Seen.leavesAll("saw(1, " + what + ", 0)", PaperEdgesTest::full, x -> x.saw(1, what, 0), -1);
        }
        for (int d : new int[] {-1, 3, 4, MIN, MAX}) {
            Seen.leavesAll("saw(" + d + ", 0, 0)", PaperEdgesTest::full, x -> x.saw(d, 0, 0), -1);
            Seen.leavesAll("saw(" + d + ", 1, 0)", PaperEdgesTest::full, x -> x.saw(d, 1, 0), -1);
        }
        Seen.leavesAll("saw(1, 0, 0)", PaperEdgesTest::full, x -> x.saw(1, 0, 0), 1);
        Seen.leavesAll("saw(1, 0, 0), nobody", PaperEdgesTest::walk, x -> x.saw(1, 0, 0), -1);
        Seen.leavesAll("saw(2, 0, 0), no joints", PaperEdgesTest::full, x -> x.saw(2, 0, 0), -1);
        HungFloors x = full();
        due("nothing is beyond", x.saw(0, 0, 0), -1);
        x.live(0, 20);
        due("just not beyond", x.saw(0, 0, 0), -1);
        x.live(0, 21);
        due("just beyond: the day", x.saw(0, 0, 0), 0);
        due("just beyond: who", x.saw(0, 1, 0), 0);
        x.live(0, 20);
        due("now no more", x.saw(0, 0, 0), -1);
        x.move(1);
        due("as they move", x.saw(0, 0, 0), 0);
    }

    private static void hollowPapers(int want, int[]... rows) {
        HungFloors x = walk();
        StringBuilder name = new StringBuilder("hollow of");
        for (int[] row : rows) {
            name.append(' ').append(java.util.Arrays.toString(row));
            x.paper(row[0], row[1], row[2], row[3], row[4] == 1);
        }
        due(name.toString(), x.hollow(0), want);
        due(name + " before", x.hollow(-1), 0);
    }

    /** "Stamped PAPERS with fewer hours than their OFFICE would have had to spend still, as it began". */
    private static void hollow() {
        hollowPapers(0);
        hollowPapers(1, new int[] {0, 5, 0, 0, 1});
        hollowPapers(1, new int[] {0, 5, 0, 5, 1});
        hollowPapers(0, new int[] {0, 5, 0, 6, 1});
        hollowPapers(0, new int[] {0, 5, 0, 7, 1});
        hollowPapers(0, new int[] {0, 5, 0, 5, 0});
        hollowPapers(1, new int[] {0, 5, 1, 7, 1});
        hollowPapers(0, new int[] {0, 5, 1, 8, 1});
        hollowPapers(0, new int[] {0, 5, 2, 0, 1});
        // "none still: not HOLLOW": five, six, seven hours ahead of one of none
        hollowPapers(1, new int[] {0, 4, 0, 5, 0}, new int[] {0, 5, 0, 0, 1});
        hollowPapers(0, new int[] {0, 4, 0, 6, 0}, new int[] {0, 5, 0, 0, 1});
        hollowPapers(0, new int[] {0, 4, 0, 7, 0}, new int[] {0, 5, 0, 0, 1});
        hollowPapers(0, new int[] {0, 4, 0, 5, 0}, new int[] {0, 5, 0, 1, 1});
        // "of earlier DAYS, and of that DAY told ahead of it": the day before, told behind; that day; the day after
        hollowPapers(0, new int[] {0, 5, 0, 0, 1}, new int[] {0, 4, 0, 6, 0});
        hollowPapers(1, new int[] {0, 5, 0, 0, 1}, new int[] {0, 5, 0, 6, 0});
        hollowPapers(0, new int[] {0, 5, 0, 6, 0}, new int[] {0, 5, 0, 0, 1});
        hollowPapers(1, new int[] {0, 6, 0, 6, 0}, new int[] {0, 5, 0, 0, 1});
        // "all its PAPERS on that DRAWING": not another office's, not on another drawing
        hollowPapers(1, new int[] {1, 4, 0, 6, 0}, new int[] {0, 5, 0, 0, 1});
        hollowPapers(1, new int[] {0, 4, 1, 6, 0}, new int[] {0, 5, 0, 0, 1});
        // each for itself
        hollowPapers(2, new int[] {0, 4, 0, 1, 1}, new int[] {0, 5, 0, 1, 1}, new int[] {0, 6, 0, 4, 1});
        hollowPapers(3, new int[] {0, 4, 0, 1, 1}, new int[] {0, 5, 0, 1, 1}, new int[] {0, 6, 0, 3, 1});
    }

    /** HOLLOW as known at k: what was untold counts neither as hollow nor for another one. */
    private static void hollowAsKnown() {
        HungFloors x = walk();
        x.paper(0, 4, 0, 6, true);
        x.paper(0, 5, 0, 0, true);
        x.later(2);
        x.untell(0);
        due("at 1", x.hollow(1), 0);
        due("at 2", x.hollow(2), 1);
        x.later(2);
        x.untell(1);
        due("at 3", x.hollow(3), 1);
        due("at 4", x.hollow(4), 0);
        due("at the end of all times", x.hollow(MAX), 0);
        due("before all times", x.hollow(MIN), 0);
        HungFloors y = walk();
        for (int i = 0; i < 60; i++) {
            y.paper(0, i, 1, 0, true);
        }
        due("all 60", y.hollow(0), 60);
        Seen.leavesAll("hollow(4)", PaperEdgesTest::told, z -> z.hollow(4), 0);
        Seen.leavesAll("hollow(3)", PaperEdgesTest::told, z -> z.hollow(3), 1);
    }

    /** "False, doing nothing, if there is none such, it does already, one can't be, or 9 do." */
    private static void storyRefused() {
        for (int paper : new int[] {-1, 2, 3, 60, MIN, MAX}) {
            Seen.leavesAll("story(" + paper + ", 1, 1)", PaperEdgesTest::told, x -> Seen.bit(x.story(paper, 1, 1)), 0);
        }
        for (int wrong : new int[] {-1, 11, 12, MIN, MAX}) {
            Seen.leavesAll("story(0, " + wrong + ", 1)", PaperEdgesTest::told, x -> Seen.bit(x.story(0, wrong, 1)), 0);
            Seen.leavesAll("story(0, 1, " + wrong + ")", PaperEdgesTest::told, x -> Seen.bit(x.story(0, 1, wrong)), 0);
        }
        Seen.leavesAll("story(1, 9, 9), told already", PaperEdgesTest::told, x -> Seen.bit(x.story(1, 9, 9)), 0);
        Seen.leavesAll("story(1, 3, 2), told already", PaperEdgesTest::told, x -> Seen.bit(x.story(1, 3, 2)), 0);
        Seen.leavesAll("story(0, 1, 1) at first", HungFloors::new, x -> Seen.bit(x.story(0, 1, 1)), 0);
        Seen.leavesAll("the tenth", PaperEdgesTest::nineStories, x -> Seen.bit(x.story(9, 1, 1)), 0);
        Seen.leavesAll("one of the nine", PaperEdgesTest::nineStories, x -> Seen.bit(x.story(8, 1, 1)), 0);
        HungFloors x = full();
        due("a refused one may be told rightly", Seen.bit(x.story(59, 11, 0)), 0);
        due("a refused one may be told rightly", Seen.bit(x.story(59, 10, 0)), 1);
        due("paper 60", Seen.bit(x.story(60, 10, 0)), 0);
    }

    private static HungFloors nineStories() {
        HungFloors x = full();
        for (int i = 0; i < 9; i++) {
            due("story " + i, Seen.bit(x.story(i, 10, 9)), 1);
        }
        return x;
    }

    /** "Odds a, b (0 .. 10 of ten each)"; "the product of all a by that and the product of all b together". */
    private static void believed() {
        int[][] rows = {{0, 10, 0, 1}, {10, 0, 1, 1}, {1, 1, 1, 2}, {10, 10, 1, 2}, {0, 1, 0, 1}, {1, 0, 1, 1},
            {9, 10, 9, 19}, {10, 9, 10, 19}, {2, 6, 1, 4}, {0, 0, -1, -1}};
        for (int[] row : rows) {
            HungFloors x = walk();
            x.paper(0, 0, 0, 0, false);
            due("without any: upper", x.believed(0, 0), 1);
            due("without any: lower", x.believed(1, 0), 2);
            due("story(0, " + row[0] + ", " + row[1] + ")", Seen.bit(x.story(0, row[0], row[1])), 1);
            due("upper", x.believed(0, 0), row[2]);
            due("lower", x.believed(1, 0), row[3]);
            due("before it was told: upper", x.believed(0, -1), 1);
            due("before it was told: lower", x.believed(1, -1), 2);
        }
        HungFloors nine = nineStories();
        due("10 ** 9", nine.believed(0, 0), 1000000000L);
        due("10 ** 9 + 9 ** 9", nine.believed(1, 0), 1387420489L);
        nine.later(1);
        for (int i = 0; i < 8; i++) {
            nine.untell(i);
        }
        due("one counts still", nine.believed(0, 1), 10);
        due("one counts still", nine.believed(1, 1), 19);
        nine.untell(8);
        due("none counts", nine.believed(0, 1), 1);
        due("none counts", nine.believed(1, 1), 2);
        due("nine do, though none counts", Seen.bit(nine.story(9, 1, 1)), 0);
    }

    /** "None if both products are 0"; "NONE if there is none, or for another part". */
    private static void believedNone() {
        HungFloors x = walk();
        x.paper(0, 0, 0, 0, false);
        x.later(1);
        x.paper(0, 0, 0, 0, false);
        x.story(0, 0, 5);
        x.story(1, 5, 0);
        due("one product is 0", x.believed(0, 0), 0);
        due("one product is 0", x.believed(1, 0), 1);
        due("both are 0", x.believed(0, 1), -1);
        due("both are 0", x.believed(1, 1), -1);
        x.later(1);
        x.untell(0);
        due("the other is left", x.believed(0, 2), 1);
        due("the other is left", x.believed(1, 2), 1);
        for (int part : new int[] {-1, 2, 3, MIN, MAX}) {
            Seen.leavesAll("believed(" + part + ", 4)", PaperEdgesTest::told, y -> y.believed(part, 4), -1);
            Seen.leavesAll("believed(" + part + ", 0) at first", HungFloors::new, y -> y.believed(part, 0), -1);
        }
        Seen.leavesAll("believed(0, 4)", PaperEdgesTest::told, y -> y.believed(0, 4), 3);
        Seen.leavesAll("believed(1, 4)", PaperEdgesTest::told, y -> y.believed(1, 4), 5);
    }

    /** "10 + f: LIVE on FLOOR f. NONE for another what." */
    private static void about() {
        for (int what : new int[] {-1, 6, 7, 8, 9, 12, 13, 15, 16, 17, MIN, MIN + 9, MIN + 10, MAX}) {
            Seen.leavesAll("about(" + what + ")", PaperEdgesTest::told, x -> x.about(what), -1);
        }
        HungFloors x = told();
        x.live(0, 998);
        x.live(1, 999);
        x.move(19);
        x.feed(0, 0, 0, 0, 0);
        int[] want = {2, 3, 2, 4, 20, 19};
        for (int what = 0; what < 6; what++) {
            due("about(" + what + ")", x.about(what), want[what]);
        }
        due("about(10)", x.about(10), 998);
        due("about(11)", x.about(11), 999);
    }

    public static void main(String[] args) {
        paperRefused();
        paperTaken();
        untold();
        later();
        knownInTwoTimes();
        spent();
        sawIt();
        sawNothing();
        hollow();
        hollowAsKnown();
        storyRefused();
        believed();
        believedNone();
        about();
        Check.finish();
    }
}
