/** The text, the tape and the faults (terms, ==== 1; promises 1 to 5): each boundary that a sentence names. */
public final class TextEdgesTest {
    private static final String[] OWN_WORDS = {"floor", "weighs", "can", "stands", "drawing", "rod", "from", "roof", "by"};
    private static final String TWO = "floor a weighs 1 can 1 stands 1;floor b weighs 1 can 1 stands 1;drawing d;";

    private static void due(String call, long got, long want) {
        Check.due(call, got, want);
    }

    /** An object with something in every place that a call could spoil; one byte of a line is on the tape. */
    private static HungFloors lived() {
        HungFloors x = Check.of("floor u weighs 100 can 60 stands 1;floor l weighs 100 can 60 stands 2;"
                + "drawing a;rod r from roof by u l can 200;"
                + "drawing b;rod r from roof by u can 200;rod t from u by l can 200;");
        x.live(0, 3);
        x.live(1, 7);
        x.move(4);
        x.paper(0, 5, 1, 3, true);
        x.paper(2, 6, 1, 8, false);
        x.story(0, 3, 1);
        x.later(2);
        x.untell(1);
        return x;
    }

    /** The text has this fault, at first and behind another house, and then all stays. */
    private static void faulty(String text, int kind, int place) {
        HungFloors fresh = new HungFloors();
        due("house() of " + text, Check.tell(fresh, text), -1);
        due("fault(0) of " + text, fresh.fault(0), kind);
        due("fault(1) of " + text, fresh.fault(1), place);
        HungFloors with = lived();
        HungFloors without = lived();
        Check.tape(without, text);
        due("house() of " + text + " behind another", Check.tell(with, text), -1);
        due("fault(0) of " + text + " behind another", with.fault(0), kind);
        due("fault(1) of " + text + " behind another", with.fault(1), place);
        Seen.alike("the faulty " + text, with, without);
    }

    private static HungFloors good(String text, int drawings) {
        HungFloors x = new HungFloors();
        due("house() of " + text, Check.tell(x, text), drawings);
        due("fault(0) of " + text, x.fault(0), 0);
        due("fault(1) of " + text, x.fault(1), -1);
        due("the tape behind " + text, x.about(4), 0);
        due("drawings of " + text, x.about(1), drawings);
        return x;
    }

    private static String floorsUpTo(char last) {
        StringBuilder s = new StringBuilder();
        for (char c = 'a'; c <= last; c++) {
            s.append("floor ").append(c).append(" weighs 0 can 1 stands 0;");
        }
        return s.toString();
    }

    private static String rodsUpTo(char last) {
        StringBuilder s = new StringBuilder();
        for (char c = 'a'; c <= last; c++) {
            s.append("rod ").append(c).append(" from roof by a can 1;");
        }
        return s.toString();
    }

    /** "An empty HOUSE": what each call answers then. */
    private static void newObject() {
        HungFloors x = new HungFloors();
        for (int what = -1; what <= 16; what++) {
            due("new: about(" + what + ")", x.about(what), what >= 0 && what <= 5 ? 0 : -1);
        }
        due("new: fault(0)", x.fault(0), 0);
        due("new: fault(1)", x.fault(1), -1);
        due("new: live", Seen.bit(x.live(0, 0)), 0);
        due("new: move", Seen.bit(x.move(1)), 1);
        long[] none = {x.joints(0), x.joint(0, 0, 0), x.bears(0, 0, 0), x.weight(0, 0, 0), x.beyond(0), x.worst(0),
            x.fall(0, 0), x.goes(0, 0), x.change(0, 0, 0), x.weak(), x.floors(0, 0), x.mend(0, 0), x.odds(0, 0, 0, 0),
            x.most(0, 0), x.elsewhere(0, 0), x.paper(0, 0, 0, 0, false), x.spent(0, 0, 0, 0), x.saw(0, 0, 0)};
        for (int i = 0; i < none.length; i++) {
            due("new: call " + i + " of those that have none", none[i], -1);
        }
        due("new: rule(0)", x.rule(0), 0);
        due("new: rule(1)", x.rule(1), 0);
        due("new: story", Seen.bit(x.story(0, 1, 1)), 0);
        due("new: untell", Seen.bit(x.untell(0)), 0);
        due("new: believed(0)", x.believed(0, 0), 1);
        due("new: believed(1)", x.believed(1, 0), 2);
        due("new: hollow", x.hollow(0), 0);
        due("new: later(0)", x.later(0), 0);
        Seen.leavesAll("house() of the empty tape", HungFloors::new, HungFloors::house, 0);
    }

    /** Two objects have nothing in common. */
    private static void twoObjects() {
        HungFloors x = lived();
        HungFloors y = new HungFloors();
        due("another object's floors", y.about(0), 0);
        due("another object's time", y.about(3), 0);
        Check.tell(y, "drawing q;");
        due("the first one's drawings", x.about(1), 2);
        due("the first one's papers", x.about(2), 2);
    }

    /** "A text of at most 1,600 bytes." */
    private static void longestText() {
        String rod = "rod r from roof by a can 1";
        StringBuilder s = new StringBuilder(TWO);
        while (s.length() + rod.length() < 1599) {
            s.append(s.length() % 2 == 0 ? ' ' : '\n');
        }
        String text = s + rod + ";";
        due("its length", text.length(), 1600);
        HungFloors x = good(text, 1);
        due("the rod that ends at the last byte", x.joints(0), 2);
        faulty(text.substring(0, 1599), 2, 1599);
        faulty(text.substring(0, 1599) + " ", 2, 1600);
        faulty(text.substring(0, 1599) + "?", 1, 1599);
        HungFloors y = good(text.substring(0, 1573) + "              ", 1);
        due("without the rod", y.joints(0), 0);
    }

    /** "Twenty bytes come behind those on the TAPE"; "NONE, and nothing comes, if there would be more than 1,600". */
    private static void feedUpToTheLast() {
        for (int had : new int[] {1560, 1579, 1580}) {
            HungFloors x = tapeOf(had);
            due("feed behind " + had, x.feed(0x20202020, 0x20202020, 0x20202020, 0x20202020, 0x20202020), had + 20);
            due("about(4) behind " + had, x.about(4), had + 20);
        }
        for (int had : new int[] {1581, 1590, 1599, 1600}) {
            Seen.leavesAll("feed behind " + had, () -> tapeOf(had), x -> x.feed(0x3f3f3f3f, 0, 0, 0, 0), -1);
        }
        HungFloors x = tapeOf(1600);
        x.feed(0, 0, 0, 0, 0);
        due("nothing came: house()", x.house(), 1);
        due("the tape is empty then", x.feed(0, 0, 0, 0, 0), 20);
    }

    /** A tape with a drawing and blanks, of so many bytes. */
    private static HungFloors tapeOf(int count) {
        HungFloors x = new HungFloors();
        StringBuilder s = new StringBuilder("drawing a;");
        while (s.length() < count) {
            s.append(' ');
        }
        Check.tape(x, s.toString());
        due("the tape's bytes", x.about(4), count);
        return x;
    }

    /** "Of each number the highest first": the one byte that is no token is found in each place. */
    private static void bytesInOrder() {
        for (int place = 0; place < 20; place++) {
            for (int spoilt : new int[] {0, 127, 128, 255}) {
                int[] n = {0x20202020, 0x20202020, 0x20202020, 0x20202020, 0x20202020};
                int shift = 24 - 8 * (place % 4);
                n[place / 4] = n[place / 4] & ~(255 << shift) | spoilt << shift;
                HungFloors x = new HungFloors();
                x.feed(n[0], n[1], n[2], n[3], n[4]);
                due("house() with the byte " + spoilt, x.house(), -1);
                due("fault(0) of the byte " + spoilt, x.fault(0), 1);
                due("fault(1) of the byte " + spoilt, x.fault(1), place);
            }
        }
    }

    /** "The TAPE has its first n bytes: n; NONE, doing nothing, if it has not so many, or n is below 0." */
    private static void endOfTape() {
        for (int n : new int[] {-1, -20, Integer.MIN_VALUE, 41, 1600, 1601, Integer.MAX_VALUE}) {
            Seen.leavesAll("end(" + n + ") of 40", () -> tapeOf(40), x -> x.end(n), -1);
        }
        Seen.leavesAll("end(40) of 40", () -> tapeOf(40), x -> x.end(40), 40);
        Seen.leavesAll("end(0) of 0", HungFloors::new, x -> x.end(0), 0);
        Seen.leavesAll("end(1) of 0", HungFloors::new, x -> x.end(1), -1);
        HungFloors x = tapeOf(40);
        due("end(39) of 40", x.end(39), 39);
        due("about(4)", x.about(4), 39);
        due("what has gone stays away", x.end(40), -1);
        due("end(10)", x.end(10), 10);
        due("the first 10 are a drawing", x.house(), 1);
        HungFloors y = tapeOf(40);
        due("end(9)", y.end(9), 9);
        due("the first 9 are none", y.house(), -1);
        due("the place is the end", y.fault(1), 9);
        due("feed comes behind the 9", y.feed(0x3b202020, 0x20202020, 0x20202020, 0x20202020, 0x20202020), 29);
        due("and completes it", y.house(), 1);
        HungFloors z = tapeOf(1600);
        due("end(1600)", z.end(1600), 1600);
        due("end(0)", z.end(0), 0);
        due("house() of nothing", z.house(), 0);
        due("no drawing", z.about(1), 0);
    }

    /** "Its first n bytes": what stood behind them is no part of a token that ends there. */
    private static void cutInAToken() {
        cutAt("floor a weighs 12345", 20, 1, 15);
        cutAt("floor a weighs 12345", 19, 4, 15);
        cutAt("floor a weighs 12345", 18, 2, 18);
        cutAt("floor a weighs 12345", 16, 2, 16);
        cutAt("floor a weighs 12345", 15, 2, 15);
        cutAt("floor a weighs 12345", 14, 2, 14);
        cutAt("floor a weighs 12345", 13, 2, 8);
        cutAt("floor a weighs 1cans", 17, 1, 15);
        cutAt("floor a weighs 1cans", 16, 2, 16);
        cutAt("drawing abcdefghijkl", 17, 1, 8);
        cutAt("drawing abcdefghijkl", 16, 2, 16);
        cutAt("drawing abcdefghijkl", 8, 2, 8);
        cutAt("drawing a;?         ", 11, 1, 10);
        HungFloors x = new HungFloors();
        Check.tape(x, "drawing a;?");
        x.end(10);
        due("what is no token has gone", x.house(), 1);
    }

    private static void cutAt(String text, int n, int kind, int place) {
        HungFloors x = new HungFloors();
        Check.tape(x, text);
        due("end(" + n + ") of " + text, x.end(n), n);
        due("house() of " + n + " of " + text, x.house(), -1);
        due("fault(0) of " + n + " of " + text, x.fault(0), kind);
        due("fault(1) of " + n + " of " + text, x.fault(1), place);
    }

    /** "house = {line}": none, blanks alone, one, many. */
    private static void noLines() {
        good("", 0);
        good(" ", 0);
        good("\n", 0);
        good(" \n \n", 0);
        due("one floor", good("floor a weighs 0 can 1 stands 0;", 0).about(0), 1);
        good("drawing a;", 1);
        faulty(";", 2, 0);
        faulty("drawing a;;", 2, 10);
        faulty("drawing a", 2, 9);
    }

    /** "The TAPE (empty then) is the HOUSE (PAPERS are none then)"; LIVE and MOVE 0 "behind another HOUSE". */
    private static void anotherHouse() {
        HungFloors x = lived();
        due("before: papers", x.about(2), 2);
        due("house()", Check.tell(x, "floor p weighs 2 can 1 stands 1;floor q weighs 3 can 1 stands 1;drawing a;"), 1);
        due("floors", x.about(0), 2);
        due("drawings", x.about(1), 1);
        due("papers", x.about(2), 0);
        due("the time goes on", x.about(3), 2);
        due("the tape", x.about(4), 0);
        due("move", x.about(5), 0);
        due("live on floor 0", x.about(10), 0);
        due("live on floor 1", x.about(11), 0);
        due("weight without people", x.weight(0, 1, 0), 3);
        due("the old drawing 1", x.joints(1), -1);
        due("the old rods", x.joints(0), 0);
        due("hollow", x.hollow(9), 0);
        due("spent", x.spent(0, 0, 99, 9), 0);
        due("believed", x.believed(1, 9), 2);
        due("untell of an old paper", Seen.bit(x.untell(0)), 0);
        due("story of an old paper", Seen.bit(x.story(0, 1, 1)), 0);
        due("the first paper's number", x.paper(0, 0, 0, 1, true), 0);
        due("it was told at 2", x.spent(0, 0, 99, 1), 0);
        due("it was told at 2", x.spent(0, 0, 99, 2), 1);
        due("its story", Seen.bit(x.story(0, 1, 1)), 1);
        due("the empty text is a house", x.house(), 0);
        due("no floors", x.about(0), 0);
        due("no papers", x.about(2), 0);
    }

    /** "0 .. 999; 0 at first, and behind another HOUSE": also where a house has the same text. */
    private static void sameHouseAgain() {
        HungFloors x = Check.of(TWO);
        x.live(0, 999);
        x.live(1, 1);
        x.move(20);
        x.paper(0, 0, 0, 1, true);
        due("the same again", Check.tell(x, TWO), 1);
        due("live 0", x.about(10), 0);
        due("live 1", x.about(11), 0);
        due("move", x.about(5), 0);
        due("papers", x.about(2), 0);
    }

    /** Nothing of a house is seen behind another one, which has fewer of all. */
    private static void smallerHouse() {
        StringBuilder large = new StringBuilder();
        for (char c = 'a'; c <= 'f'; c++) {
            large.append("floor ").append(c).append(" weighs 99 can 50 stands 9;");
        }
        for (char d = 'p'; d <= 's'; d++) {
            large.append("drawing ").append(d).append(";rod r from roof by a b c d e f can 99;rod s from roof by a b can 9;"
                    + "rod t from a by b c can 9;rod u from b by f can 9;");
        }
        String[] small = {"", "drawing p;", TWO, TWO + "rod r from roof by a can 2;rod s from a by b can 1;drawing e;",
            "floor a weighs 1 can 3 stands 2;floor b weighs 2 can 2 stands 3;floor c weighs 0 can 1 stands 0;"
            + "drawing d;rod r from roof by a b can 4;drawing e;rod r from roof by a can 1;rod t from a by b can 3;"};
        for (String text : small) {
            for (int times = 1; times <= 2; times++) {
                HungFloors x = new HungFloors();
                for (int i = 0; i < times; i++) {
                    due("the large one", Check.tell(x, large.toString()), 4);
                    x.live(5, 999);
                    x.move(20);
                    x.paper(0, 0, 3, 40, true);
                    due("odds in it", x.odds(3, 10, 20, 1), 1);
                    due("all fall", x.fall(3, 0), 63);
                    due("elsewhere in it: nine nuts of b, then those of a", x.elsewhere(3, 11), 101);
                    due("mend in it", x.mend(3, 0), -1);
                }
                Check.tell(x, text);
                Seen.alike("a large house ahead of " + text, x, Check.of(text));
            }
        }
    }

    /** "Of the latest house() what 0: its FAULT (0), 1: its place (NONE). NONE for another what." */
    private static void latestFault() {
        HungFloors x = new HungFloors();
        for (int what : new int[] {-2, -1, 2, 3, 10, Integer.MIN_VALUE, Integer.MAX_VALUE}) {
            due("fault(" + what + ") at first", x.fault(what), -1);
        }
        due("fault 6", Check.tell(x, TWO + "rod r from b by a"), -1);
        due("its kind", x.fault(0), 6);
        due("its place", x.fault(1), TWO.length() + 16);
        for (int what : new int[] {-2, -1, 2, 3, 10, Integer.MIN_VALUE, Integer.MAX_VALUE}) {
            due("fault(" + what + ") of a faulty one", x.fault(what), -1);
        }
        x.end(0);
        x.feed(0x20202020, 0x20202020, 0x20202020, 0x20202020, 0x3f202020);
        due("feed and end leave it", x.fault(0), 6);
        due("house() once more", x.house(), -1);
        due("the latest one's kind", x.fault(0), 1);
        due("the latest one's place", x.fault(1), 16);
        x.end(16);
        due("a good one", x.house(), 0);
        due("no fault", x.fault(0), 0);
        due("no place", x.fault(1), -1);
    }

    /** "Words (a .. z, 8 at most)": the first letter and the last, and the signs beside them. */
    private static void letters() {
        good("drawing a;drawing z;drawing azazazaz;", 3);
        for (char c : new char[] {'`', '{', 'A', 'Z', '@', '[', '_', (char) 225}) {
            faulty("drawing " + c + ";", 1, 8);
            faulty("drawing b" + c + ";", 1, 9);
        }
        good("drawing abcdefg;drawing abcdefgh;", 2);
        faulty("drawing abcdefghi;", 1, 8);
        faulty("drawing abcdefghijklmnopqrstuvwxyz;", 1, 8);
        faulty("drawing floorfloor;", 1, 8);
        faulty("drawingabc;", 1, 0);
        faulty(TWO + "rod r from roof by aaaaaaaab can 1;", 1, TWO.length() + 19);
        faulty(TWO + "rod r from roofroofs by a can 1;", 1, TWO.length() + 11);
        faulty("drawing abcdefgh i;", 2, 17);
        good("drawing abcdefgh;drawing abcdefgi;drawing bbcdefgh;drawing abcdefg;", 4);
        faulty("drawing abcdefgh;drawing abcdefgh;", 3, 25);
        faulty("drawing ;", 2, 8);
        due("rods of 8 letters", good(TWO + "rod aaaaaaaa from roof by a can 1;rod aaaaaaab from roof by a can 1;", 1)
                .joints(0), 4);
        good("floor abcdefgh weighs 1 can 1 stands 1;floor abcdefgg weighs 1 can 1 stands 1;"
                + "drawing d;rod r from abcdefgh by abcdefgg can 1;", 1);
    }

    /** "N (1 to 4 digits)". */
    private static void digits() {
        due("one digit", good("floor a weighs 9 can 9 stands 9;drawing d;", 1).weight(0, 0, 0), 9);
        due("four digits", good("floor a weighs 0999 can 9999 stands 0009;drawing d;", 1).weight(0, 0, 0), 999);
        due("zeros", good("floor a weighs 0000 can 0001 stands 0000;drawing d;", 1).weight(0, 0, 0), 0);
        faulty("floor a weighs 00000 can 1 stands 1;", 1, 15);
        faulty("floor a weighs 10000 can 1 stands 1;", 1, 15);
        faulty("floor a weighs 42949672970 can 1 stands 1;", 1, 15);
        faulty("floor a weighs 1 can 10000 stands 1;", 1, 21);
        faulty("floor a weighs 1 can 1 stands 00001;", 1, 30);
        faulty("drawing 12345;", 1, 8);
        faulty("floor a weighs 1 1 can 1 stands 1;", 2, 17);
        faulty("floor a weighs can 1 stands 1;", 2, 15);
        faulty("floor a weighs / can 1 stands 1;", 1, 15);
        faulty("floor a weighs : can 1 stands 1;", 1, 15);
        faulty("floor a weighs 1/ can 1 stands 1;", 1, 16);
        faulty("floor a weighs -1 can 1 stands 1;", 1, 15);
        faulty("floor a weighs +1 can 1 stands 1;", 1, 15);
        faulty("floor a weighs 1.5 can 1 stands 1;", 1, 16);
    }

    /** "Sign ;" and the signs beside it; "blanks (32, 10)" and the bytes beside them. */
    private static void signsAndBlanks() {
        faulty("drawing a:", 1, 9);
        faulty("drawing a<", 1, 9);
        faulty("drawing a,", 1, 9);
        good("drawing a ;", 1);
        good("drawing\na\n;\n", 1);
        for (char c : new char[] {0, 9, 11, 12, 13, 31, 33, 127, 128, 160, 255}) {
            faulty("drawing" + c + "a;", 1, 7);
            faulty(c + "", 1, 0);
            faulty("drawing a;" + c, 1, 10);
        }
    }

    /** "Blanks part them or not; each is as long as can be; no letter directly behind an N." */
    private static void partedOrNot() {
        due("as tight as can be", good("floor a weighs1 can2 stands3;floor b weighs1 can2 stands3;drawing d;"
                + "rod r from a by b can4;", 1).joints(0), 2);
        due("as wide as can be", good(" floor  a\n\nweighs \n 1  can  2  stands  3  ;  drawing  d  ;  "
                + "rod  r  from  roof  by  a  can  4  ;  ", 1).joints(0), 2);
        faulty("floora weighs 1 can 1 stands 1;", 2, 0);
        faulty("drawinga;", 2, 0);
        faulty(TWO + "rodr from roof by a can 1;", 2, TWO.length());
        faulty(TWO + "rod r fromroof by a can 1;", 2, TWO.length() + 6);
        faulty(TWO + "rod r from roofby a can 1;", 5, TWO.length() + 11);
        faulty(TWO + "rod r from roof by ab can 1;", 5, TWO.length() + 19);
        faulty("floor a weighs 1can 1 stands 1;", 1, 15);
        faulty("floor a weighs 1 can 1stands 1;", 1, 21);
        faulty("floor a weighs 1 can 9999stands 1;", 1, 21);
        faulty("floor a weighs 1000can 1 stands 1;", 1, 15);
        faulty("floor a weighs 1 can 1 stands 1a;", 1, 30);
        faulty("floor a weighs 1 can 1 stands 1z;", 1, 30);
        faulty("drawing a1;", 2, 9);
        faulty("drawing 1a;", 1, 8);
        faulty("drawing 1 a;", 2, 8);
        faulty("floor a weighs 1A can 1 stands 1;", 1, 16);
        good("floor a weighs 1\ncan 1 stands 1;", 0);
        good("floor a weighs 1 can 1 stands 1 ;", 0);
    }

    /** "Words that stand for themselves here are no NAMES": in each place where a NAME may stand. */
    private static void ownWords() {
        int n = TWO.length();
        for (String own : OWN_WORDS) {
            faulty("floor " + own + " weighs 1 can 1 stands 1;", 2, 6);
            faulty("drawing " + own + ";", 2, 8);
            faulty(TWO + "rod " + own + " from roof by a can 1;", 2, n + 4);
            faulty(TWO + "rod r from roof by " + own + " can 1;", 2, n + 19);
            if (!own.equals("roof")) {
                faulty(TWO + "rod r from " + own + " by a can 1;", 2, n + 11);
            }
            if (!own.equals("can")) {
                faulty(TWO + "rod r from roof by a " + own + " can 1;", 2, n + 21);
            }
        }
        good("drawing floo;drawing floors;drawing ca;drawing cans;", 4);
        good("drawing weigh;drawing stand;drawing drawings;drawing rods;", 4);
        good("drawing roo;drawing roofs;drawing b;drawing bys;", 4);
    }

    /** "At most 6 FLOORS, all ahead of the first DRAWING": "at the line's first word". */
    private static void sixFloors() {
        due("five", good(floorsUpTo('e'), 0).about(0), 5);
        HungFloors six = good(floorsUpTo('f'), 0);
        due("six", six.about(0), 6);
        due("live on the last", Seen.bit(six.live(5, 1)), 1);
        due("and on no more", Seen.bit(six.live(6, 1)), 0);
        due("about(15)", six.about(15), 1);
        due("about(16)", six.about(16), -1);
        String text = floorsUpTo('f');
        faulty(floorsUpTo('g'), 2, text.length());
        faulty(text + "\n floor a", 2, text.length() + 2);
        faulty(text + "floor ?", 2, text.length());
        faulty("floor a weighs 1 can 1 stands 1;drawing d;floor b weighs 1 can 1 stands 1;", 2, 42);
        good("floor a weighs 1 can 1 stands 1;floor b weighs 1 can 1 stands 1;drawing d;", 1);
    }

    /** "Weighs 0 .. 999, can 1 .. 9999, stands 0 .. 9": 4, "a number that can't be". */
    private static void numbersOfFloors() {
        due("weighs 0", good("floor a weighs 0 can 1 stands 0;drawing d;", 1).weight(0, 0, 0), 0);
        due("weighs 1", good("floor a weighs 1 can 1 stands 0;drawing d;", 1).weight(0, 0, 0), 1);
        due("weighs 998", good("floor a weighs 998 can 1 stands 0;drawing d;", 1).weight(0, 0, 0), 998);
        due("weighs 999", good("floor a weighs 999 can 1 stands 0;drawing d;", 1).weight(0, 0, 0), 999);
        faulty("floor a weighs 1000 can 1 stands 0;", 4, 15);
        faulty("floor a weighs 9999 can 1 stands 0;", 4, 15);
        String rod = " stands 0;drawing d;rod r from roof by a can 5;";
        due("can 1", good("floor a weighs 0 can 1" + rod, 1).joint(0, 1, 2), 1);
        due("can 9999", good("floor a weighs 0 can 9999" + rod, 1).joint(0, 1, 2), 9999);
        faulty("floor a weighs 0 can 0 stands 0;", 4, 21);
        faulty("floor a weighs 0 can 0000 stands 0;", 4, 21);
        due("stands 0", good("floor a weighs 0 can 1 stands 0;drawing d;", 1).odds(0, 1, 0, 0), -1);
        due("stands 1", good("floor a weighs 0 can 1 stands 1;drawing d;", 1).odds(0, 1, 0, 0), 0);
        due("stands 9", good("floor a weighs 0 can 1 stands 9;drawing d;", 1).odds(0, 1, 0, 0), 0);
        faulty("floor a weighs 0 can 1 stands 10;", 4, 30);
        faulty("floor a weighs 0 can 1 stands 9999;", 4, 30);
    }

    /** "4 DRAWINGS". */
    private static void fourDrawings() {
        good("drawing a;drawing b;drawing c;", 3);
        HungFloors x = good("drawing a;drawing b;drawing c;drawing d;", 4);
        due("joints of the last", x.joints(3), 0);
        due("joints of no more", x.joints(4), -1);
        faulty("drawing a;drawing b;drawing c;drawing d;drawing e;", 2, 40);
        faulty("drawing a;drawing b;drawing c;drawing d;drawing a;", 2, 40);
        faulty("drawing a;drawing b;drawing c;drawing d; drawing", 2, 41);
    }

    /** "Of each the RODS told behind it, ahead of the next, 10 at most"; "a ROD ahead of all DRAWINGS or an 11th". */
    private static void tenRods() {
        String one = "floor a weighs 0 can 1 stands 0;";
        int n = one.length() + 10;
        due("nine", good(one + "drawing d;" + rodsUpTo('i'), 1).joints(0), 18);
        due("ten", good(one + "drawing d;" + rodsUpTo('j'), 1).joints(0), 20);
        faulty(one + "drawing d;" + rodsUpTo('k'), 2, n + rodsUpTo('j').length());
        faulty(one + "drawing d;" + rodsUpTo('j') + "rod a", 2, n + rodsUpTo('j').length());
        HungFloors x = good(one + "drawing d;" + rodsUpTo('j') + "drawing e;" + rodsUpTo('j') + "drawing f;drawing g;"
                + rodsUpTo('b'), 4);
        int[] joints = {20, 20, 0, 4};
        for (int d = 0; d < 4; d++) {
            due("joints of " + d, x.joints(d), joints[d]);
        }
        faulty(one + "rod r from roof by a can 1;", 2, one.length());
        faulty("rod r from roof by a can 1;", 2, 0);
        faulty(" rod", 2, 1);
    }

    /** "(can 1 .. 9999)" of a ROD. */
    private static void numbersOfRods() {
        String start = TWO + "rod r from roof by a can ";
        due("can 1", good(start + "1;", 1).joint(0, 0, 2), 1);
        due("can 9999", good(start + "9999;", 1).joint(0, 0, 2), 9999);
        faulty(start + "0;", 4, start.length());
        faulty(start + "0000;", 4, start.length());
        faulty(start + "10000;", 1, start.length());
        faulty(start + ";", 2, start.length());
    }

    /** "Each farther down than the one ahead (the first: than that from which it hangs)": 6. */
    private static void fartherDown() {
        String six = floorsUpTo('f') + "drawing d;";
        int n = six.length();
        for (char from = 'a'; from <= 'f'; from++) {
            for (char held = 'a'; held <= 'f'; held++) {
                String text = six + "rod r from " + from + " by " + held + " can 1;";
                if (held > from) {
                    due(text, good(text, 1).joint(0, 1, 1), held - 'a');
                } else {
                    faulty(text, 6, n + 16);
                }
                String two = six + "rod r from roof by " + from + " " + held + " can 1;";
                if (held > from) {
                    due(two, good(two, 1).joint(0, 2, 1), held - 'a');
                } else {
                    faulty(two, 6, n + 21);
                }
            }
            due("from the roof", good(six + "rod r from roof by " + from + " can 1;", 1).joint(0, 1, 1), from - 'a');
        }
        due("all six", good(six + "rod r from roof by a b c d e f can 1;", 1).joints(0), 7);
        due("five", good(six + "rod r from a by b c d e f can 1;", 1).joints(0), 6);
        faulty(six + "rod r from roof by a b c d e f f can 1;", 6, n + 31);
        faulty(six + "rod r from roof by a c b can 1;", 6, n + 23);
        faulty(six + "rod r from c by d b can 1;", 6, n + 18);
    }

    /** "3 a NAME told already (of a FLOOR, a DRAWING, a ROD of this DRAWING)". */
    private static void toldAlready() {
        String two = "floor a weighs 1 can 1 stands 1;floor b weighs 1 can 1 stands 1;";
        faulty(two + "floor a", 3, two.length() + 6);
        faulty(two + "floor b", 3, two.length() + 6);
        faulty("drawing a;drawing b;drawing a", 3, 28);
        faulty("drawing a;drawing b;drawing b;", 3, 28);
        faulty("drawing a;drawing a?", 3, 18);
        int n = TWO.length();
        String rods = "rod r from roof by a can 1;rod s from roof by a can 1;";
        faulty(TWO + rods + "rod r", 3, n + rods.length() + 4);
        faulty(TWO + rods + "rod s from", 3, n + rods.length() + 4);
        due("in another drawing", good(TWO + rods + "drawing e;" + rods, 2).change(0, 1, 3), 4);
        faulty(TWO + rods + "drawing e;" + rods + "rod r", 3, n + 2 * rods.length() + 14);
        good("floor a weighs 1 can 1 stands 1;drawing a;rod a from roof by a can 1;", 1);
    }

    /** "5 a NAME that is no FLOOR": of a drawing, of a rod, of a floor told nowhere. */
    private static void noFloor() {
        int n = TWO.length();
        String rod = "rod r from roof by a can 1;";
        faulty(TWO + "rod r from d by a can 1;", 5, n + 11);
        faulty(TWO + "rod r from r by a can 1;", 5, n + 11);
        faulty(TWO + rod + "rod s from r by a can 1;", 5, n + rod.length() + 11);
        faulty(TWO + "rod r from roof by c can 1;", 5, n + 19);
        faulty(TWO + "rod r from roof by d can 1;", 5, n + 19);
        faulty(TWO + "rod r from roof by a d can 1;", 5, n + 21);
        faulty(TWO + "rod r from b by c can 1;", 5, n + 16);
        faulty("drawing d;rod r from roof by a can 1;", 5, 29);
        HungFloors x = Check.of(TWO);
        due("floors of the house before are none", Check.tell(x, "drawing d;rod r from roof by a can 1;"), -1);
        due("5", x.fault(0), 5);
    }

    /** "FAULTS, the first by its place ..., at one place the least." */
    private static void firstByPlace() {
        faulty("floor a weighs 1000 can 0 stands 10;", 4, 15);
        faulty("floor a weighs 1000?", 4, 15);
        faulty("floor a weighs ? can 0 stands 10;", 1, 15);
        faulty("floor floor weighs 1000", 2, 6);
        faulty("drawing a;drawing a;?", 3, 18);
        faulty("drawing a;? drawing a;", 1, 10);
        int n = TWO.length();
        faulty(TWO + "rod r from c by ? can 0", 5, n + 11);
        faulty(TWO + "rod r from b by a a can 0", 6, n + 16);
        faulty(TWO + "rod r from roof by b a can 0", 6, n + 21);
        faulty(TWO + "rod r from roof by b can 0 ?", 4, n + 25);
        faulty(TWO + "rod r from roof by b can 1 ?", 1, n + 27);
        faulty("?drawing", 1, 0);
    }

    /** "The end: the text's length": a text that ends behind each of its tokens, with and without blanks. */
    private static void cutAtTheEnd() {
        String[][] lines = {
            {"floor ", "a ", "weighs ", "1 ", "can ", "1 ", "stands ", "1 ", ";"},
            {"drawing ", "d ", ";"},
            {"rod ", "r ", "from ", "roof ", "by ", "a ", "can ", "1 ", ";"}};
        StringBuilder s = new StringBuilder();
        for (String[] line : lines) {
            for (int i = 0; i + 1 < line.length; i++) {
                s.append(line[i]);
                faulty(s.toString(), 2, s.length());
                String bare = s.toString().trim();
                faulty(bare, 2, bare.length());
                faulty(bare + " \n\n", 2, bare.length() + 3);
            }
            s.append(line[line.length - 1]);
        }
        good(s.toString(), 1);
    }

    /** What stands in the place of each token of each line "can't stand there": 2. */
    private static void cannotStand() {
        String floor = "floor a weighs 1 can 1 stands 1 ;";
        int[] places = {0, 6, 8, 15, 17, 21, 23, 30, 32};
        String[] tokens = floor.split(" ");
        for (int i = 0; i < tokens.length; i++) {
            for (String other : new String[] {"zzz", "7", ";", "floor", "by"}) {
                boolean isName = other.equals("zzz");
                boolean isNumber = other.equals("7");
                boolean fits = other.equals(tokens[i]) || isName && i == 1 || isNumber && (i == 3 || i == 5 || i == 7);
                if (!fits) {
                    faulty(floor.substring(0, places[i]) + other + " " + floor.substring(places[i]), 2, places[i]);
                }
            }
        }
        int n = TWO.length();
        faulty(TWO + "rod r roof by a can 1;", 2, n + 6);
        faulty(TWO + "rod r from roof a can 1;", 2, n + 16);
        faulty(TWO + "rod r from roof by 1;", 2, n + 19);
        faulty(TWO + "rod r from roof by a 1;", 2, n + 21);
        faulty(TWO + "rod r from roof by a ;", 2, n + 21);
        faulty(TWO + "rod r from roof by a can a;", 2, n + 25);
        faulty(TWO + "rod r from roof by a can 1 can 1;", 2, n + 27);
        faulty(TWO + "rod r from 7 by a can 1;", 2, n + 11);
        faulty(TWO + "rod 7 from roof by a can 1;", 2, n + 4);
        faulty("drawing 7;", 2, 8);
        faulty("drawing a b;", 2, 10);
    }

    public static void main(String[] args) {
        newObject();
        twoObjects();
        longestText();
        feedUpToTheLast();
        bytesInOrder();
        endOfTape();
        cutInAToken();
        noLines();
        anotherHouse();
        sameHouseAgain();
        smallerHouse();
        latestFault();
        letters();
        digits();
        signsAndBlanks();
        partedOrNot();
        ownWords();
        sixFloors();
        numbersOfFloors();
        fourDrawings();
        tenRods();
        numbersOfRods();
        fartherDown();
        toldAlready();
        noFloor();
        firstByPlace();
        cutAtTheEnd();
        cannotStand();
        Check.finish();
    }
}
