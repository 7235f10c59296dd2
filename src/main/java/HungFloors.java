/** A floor hung from a floor: see ../shared/DOC.md, whose words the names here follow. */
public final class HungFloors {
    public static final int NONE = -1;

    private static final int MOST_BYTES = 1600;
    private static final int FEED_BYTES = 20;
    private static final int MOST_FLOORS = 6;
    private static final int MOST_DRAWINGS = 4;
    private static final int MOST_RODS = 10;
    private static final int MOST_JOINTS = MOST_RODS * (1 + MOST_FLOORS);
    private static final int MOST_PEOPLE = 999;
    private static final int MOST_MOVE = 20;
    private static final int MOST_LOT = 10;
    private static final int OFFICES = 6;
    private static final int MOST_DAY = 99;
    private static final int MOST_HOURS = 99;
    private static final int MOST_PAPERS = 60;
    private static final int MOST_STORIES = 9;
    private static final int MOST_ODDS = 10;
    private static final int MOST_LATER = 1000;
    private static final int MOST_TIME = 100000;
    private static final int LIVE_FROM = 10;
    /** Where a rod hangs that hangs from no floor: above floor 0. */
    private static final int ROOF = -1;
    /** People weigh tenths, so every weight is kept in tenths (and in parts of the frame's scale). */
    private static final int TENTHS = 10;

    private final byte[] tape = new byte[MOST_BYTES];
    private int taped = 0;
    private Plan plan = new Plan();
    /** A text is read into this one, so that a faulty text leaves the house as it is. */
    private Plan spare = new Plan();
    private final HouseReader reader = new HouseReader();
    private final int[] people = new int[MOST_FLOORS];
    private int moving = 0;
    private final Frame first = new Frame();
    private final Frame second = new Frame();
    private final Fall falling = new Fall();
    private final Crowd crowd = new Crowd();
    private final Ranking ranking = new Ranking();
    private final Papers papers = new Papers();
    private int now = 0;

    public HungFloors() {
    }

    public int feed(int a, int b, int c, int d, int e) {
        if (taped + FEED_BYTES > MOST_BYTES) {
            return NONE;
        }
        putOnTape(a);
        putOnTape(b);
        putOnTape(c);
        putOnTape(d);
        putOnTape(e);
        return taped;
    }

    private void putOnTape(int number) {
        for (int shift = 24; shift >= 0; shift -= 8) {
            if (taped < MOST_BYTES) {
                tape[taped] = (byte) (number >> shift);
                taped++;
            }
        }
    }

    public int end(int n) {
        if (n < 0 || n > taped) {
            return NONE;
        }
        taped = n;
        return n;
    }

    public int house() {
        if (!reader.readHouse(tape, taped, spare)) {
            return NONE;
        }
        Plan old = plan;
        plan = spare;
        spare = old;
        taped = 0;
        moving = 0;
        for (int f = 0; f < MOST_FLOORS; f++) {
            people[f] = 0;
        }
        papers.forgetAll();
        return plan.drawingCount;
    }

    public int fault(int what) {
        if (what == 0) {
            return reader.faultKind;
        }
        return what == 1 ? reader.faultPlace : NONE;
    }

    public boolean live(int floor, int people) {
        if (!isFloor(floor) || people < 0 || people > MOST_PEOPLE) {
            return false;
        }
        this.people[floor] = people;
        return true;
    }

    public boolean move(int much) {
        if (!isMove(much)) {
            return false;
        }
        moving = much;
        return true;
    }

    public int joints(int drawing) {
        return isDrawing(drawing) ? plan.jointsOf(drawing) : NONE;
    }

    public int joint(int drawing, int joint, int what) {
        if (!isJoint(drawing, joint)) {
            return NONE;
        }
        Frame frame = reckoned(first, drawing);
        switch (what) {
            case 0:
                return frame.jointRod[joint];
            case 1:
                return frame.jointFloor[joint];
            case 2:
                return frame.canOf(joint);
            case 3:
                return frame.isBeyond(joint) ? 1 : 0;
            default:
                return NONE;
        }
    }

    public long bears(int drawing, int joint, int part) {
        if (!isJoint(drawing, joint)) {
            return NONE;
        }
        Frame frame = reckoned(first, drawing);
        return Fractions.partOf(frame.bornBy(joint), frame.unit(), part);
    }

    public long weight(int drawing, int floor, int part) {
        if (!isDrawing(drawing) || !isFloor(floor)) {
            return NONE;
        }
        Frame frame = reckoned(first, drawing);
        return Fractions.partOf(frame.weightOf[floor], frame.unit(), part);
    }

    public int beyond(int drawing) {
        return isDrawing(drawing) ? reckoned(first, drawing).countBeyond() : NONE;
    }

    public int worst(int drawing) {
        return isDrawing(drawing) ? reckoned(first, drawing).worstJoint() : NONE;
    }

    public int fall(int drawing, int what) {
        if (!isDrawing(drawing) || !isPart(what)) {
            return NONE;
        }
        falling.run(reckoned(first, drawing));
        return what == 0 ? falling.fallen : falling.wentCount;
    }

    public int goes(int drawing, int i) {
        if (!isDrawing(drawing)) {
            return NONE;
        }
        falling.run(reckoned(first, drawing));
        return i >= 0 && i < falling.wentCount ? falling.went[i] : NONE;
    }

    public int change(int from, int to, int what) {
        if (!isDrawing(from) || !isDrawing(to)) {
            return NONE;
        }
        Frame before = reckoned(first, from);
        Frame behind = reckoned(second, to);
        switch (what) {
            case 0:
                return before.countMore(behind);
            case 1:
                return before.countTwice(behind);
            case 2:
                return before.jointCount - before.countSame(behind);
            case 3:
                return before.countSame(behind);
            default:
                return NONE;
        }
    }

    public int weak() {
        if (!isDrawing(0)) {
            return NONE;
        }
        first.draw(plan, 0);
        first.loadNobody();
        first.reckon();
        return first.countBeyond();
    }

    public int floors(int drawing, int what) {
        if (!isDrawing(drawing) || !isPart(what)) {
            return NONE;
        }
        first.draw(plan, drawing);
        return what == 0 ? first.openFloors() : first.doubleFloors();
    }

    public int mend(int drawing, int what) {
        if (!isDrawing(drawing) || !isPart(what)) {
            return NONE;
        }
        int rods = reckoned(first, drawing).fewestToRoof();
        return rods >= 0 && what == 0 ? Integer.bitCount(rods) : rods;
    }

    public long odds(int drawing, int n, int m, int part) {
        if (!isDrawing(drawing) || n < 0 || n > MOST_LOT || !isMove(m)) {
            return NONE;
        }
        first.draw(plan, drawing);
        crowd.gather(first, n, m);
        return Fractions.partOf(crowd.bad, crowd.all, part);
    }

    public int most(int drawing, int floor) {
        if (!isDrawing(drawing) || !isFloor(floor)) {
            return NONE;
        }
        Frame frame = reckoned(first, drawing);
        if (frame.isBeyondWith(floor, 0, moving)) {
            return NONE;
        }
        int most = 0;
        for (int step = 512; step > 0; step >>= 1) {
            int more = most + step;
            if (more <= MOST_PEOPLE && !frame.isBeyondWith(floor, more, moving)) {
                most = more;
            }
        }
        return most;
    }

    public int rule(int what) {
        if (!isPart(what)) {
            return NONE;
        }
        int least = leastRule();
        if (what == 0) {
            return least;
        }
        int hours = 0;
        for (int d = 0; d < plan.drawingCount; d++) {
            hours += Math.min(least, plan.jointsOf(d));
        }
        return hours;
    }

    private int leastRule() {
        int least = 0;
        for (int d = 0; d < plan.drawingCount; d++) {
            least = Math.max(least, reckoned(first, d).looksNeeded());
        }
        return least;
    }

    public int elsewhere(int drawing, int i) {
        if (!isDrawing(drawing)) {
            return NONE;
        }
        ranking.start();
        for (int d = 0; d < plan.drawingCount; d++) {
            if (d != drawing) {
                ranking.addDoubleNuts(reckoned(first, d));
            }
        }
        return ranking.codeAt(i);
    }

    public boolean story(int paper, int a, int b) {
        if (a < 0 || a > MOST_ODDS || b < 0 || b > MOST_ODDS) {
            return false;
        }
        return papers.letBear(paper, a, b);
    }

    public long believed(int part, int k) {
        long one = papers.oddsTogether(true, k);
        long other = papers.oddsTogether(false, k);
        return Fractions.partOf(one, one + other, part);
    }

    public int paper(int office, int day, int drawing, int hours, boolean stamped) {
        boolean canBe = isOffice(office) && isDay(day) && isDrawing(drawing) && hours >= 0 && hours <= MOST_HOURS;
        return canBe ? papers.tell(office, day, drawing, hours, stamped, now) : NONE;
    }

    public boolean untell(int paper) {
        return papers.takeBack(paper, now);
    }

    public int later(int by) {
        if (by < 0 || by > MOST_LATER || now + by > MOST_TIME) {
            return NONE;
        }
        now += by;
        return now;
    }

    public int spent(int office, int drawing, int day, int k) {
        if (!isOffice(office) || !isDrawing(drawing) || !isDay(day)) {
            return NONE;
        }
        return papers.hoursUpTo(office, drawing, day, k);
    }

    public int saw(int drawing, int what, int k) {
        if (!isDrawing(drawing) || !isPart(what) || !reckoned(first, drawing).isAnyBeyond()) {
            return NONE;
        }
        int paper = papers.firstToReckon(drawing, plan.jointsOf(drawing), k);
        if (paper < 0) {
            return NONE;
        }
        return what == 0 ? papers.day[paper] : papers.office[paper];
    }

    public int hollow(int k) {
        int count = 0;
        for (int p = 0; p < papers.count; p++) {
            int needed = plan.jointsOf(papers.drawing[p]);
            if (papers.isHollow(p, needed, k)) {
                count++;
            }
        }
        return count;
    }

    public int about(int what) {
        switch (what) {
            case 0:
                return plan.floorCount;
            case 1:
                return plan.drawingCount;
            case 2:
                return papers.count;
            case 3:
                return now;
            case 4:
                return taped;
            case 5:
                return moving;
            default:
                return what >= LIVE_FROM && isFloor(what - LIVE_FROM) ? people[what - LIVE_FROM] : NONE;
        }
    }

    private boolean isFloor(int floor) {
        return floor >= 0 && floor < plan.floorCount;
    }

    private boolean isDrawing(int drawing) {
        return drawing >= 0 && drawing < plan.drawingCount;
    }

    private boolean isJoint(int drawing, int joint) {
        return isDrawing(drawing) && joint >= 0 && joint < plan.jointsOf(drawing);
    }

    private static boolean isMove(int much) {
        return much >= 0 && much <= MOST_MOVE;
    }

    private static boolean isOffice(int office) {
        return office >= 0 && office < OFFICES;
    }

    private static boolean isDay(int day) {
        return day >= 0 && day <= MOST_DAY;
    }

    private static boolean isPart(int part) {
        return part == 0 || part == 1;
    }

    /** The drawing as it is told, under the people that there are now. */
    private Frame reckoned(Frame frame, int drawing) {
        frame.draw(plan, drawing);
        frame.loadPeople(people, moving);
        frame.reckon();
        return frame;
    }

    /** Exact fractions of longs that are not below 0. */
    private static final class Fractions {
        /** Euclid on longs is at its end far below this. */
        private static final int MOST_STEPS = 200;

        static long greatestCommon(long a, long b) {
            long x = a;
            long y = b;
            for (int i = 0; i < MOST_STEPS && y != 0; i++) {
                long rest = x % y;
                x = y;
                y = rest;
            }
            return x;
        }

        /** A part of upper / lower in lowest terms; NONE if there is no such fraction or part. */
        static long partOf(long upper, long lower, int part) {
            if (lower <= 0 || !isPart(part)) {
                return NONE;
            }
            long common = greatestCommon(upper, lower);
            if (common == 0) {
                return NONE;
            }
            return part == 0 ? upper / common : lower / common;
        }

        /** How a / b stands to c / d (both lower ones above 0), digit by digit: products could overflow. */
        static int order(long a, long b, long c, long d) {
            long up = a;
            long low = b;
            long upThere = c;
            long lowThere = d;
            int sign = 1;
            for (int i = 0; i < MOST_STEPS && low > 0 && lowThere > 0; i++) {
                long whole = up / low;
                long wholeThere = upThere / lowThere;
                if (whole != wholeThere) {
                    return whole > wholeThere ? sign : -sign;
                }
                long rest = up % low;
                long restThere = upThere % lowThere;
                if (rest == 0 || restThere == 0) {
                    return sign * Long.compare(rest, restThere);
                }
                up = low;
                low = rest;
                upThere = lowThere;
                lowThere = restThere;
                sign = -sign;
            }
            return 0;
        }
    }

    /** What a text tells: floors, drawings and their rods. */
    private static final class Plan {
        int floorCount = 0;
        final long[] floorName = new long[MOST_FLOORS];
        final int[] weighs = new int[MOST_FLOORS];
        final int[] can = new int[MOST_FLOORS];
        final int[] stands = new int[MOST_FLOORS];
        int drawingCount = 0;
        final long[] drawingName = new long[MOST_DRAWINGS];
        final int[] rodCount = new int[MOST_DRAWINGS];
        final long[] rodName = new long[MOST_DRAWINGS * MOST_RODS];
        final int[] rodFrom = new int[MOST_DRAWINGS * MOST_RODS];
        final int[] rodHolds = new int[MOST_DRAWINGS * MOST_RODS];
        final int[] rodCan = new int[MOST_DRAWINGS * MOST_RODS];

        void empty() {
            floorCount = 0;
            drawingCount = 0;
        }

        boolean takesFloor() {
            return floorCount < MOST_FLOORS && drawingCount == 0;
        }

        boolean takesDrawing() {
            return drawingCount < MOST_DRAWINGS;
        }

        boolean takesRod() {
            return drawingCount > 0 && rodCount[drawingCount - 1] < MOST_RODS;
        }

        int floorCalled(long name) {
            return placeOf(name, floorName, 0, floorCount);
        }

        int drawingCalled(long name) {
            return placeOf(name, drawingName, 0, drawingCount);
        }

        /** The place in the rows of rods of the one so called in a drawing, or NONE. */
        int rodCalled(int drawing, long name) {
            int start = drawing * MOST_RODS;
            return placeOf(name, rodName, start, start + rodCount[drawing]);
        }

        private static int placeOf(long name, long[] names, int start, int end) {
            for (int i = start; i < end && i < names.length; i++) {
                if (names[i] == name) {
                    return i;
                }
            }
            return NONE;
        }

        void addFloor(long name, int weighing, int bearing, int standing) {
            if (takesFloor()) {
                floorName[floorCount] = name;
                weighs[floorCount] = weighing;
                can[floorCount] = bearing;
                stands[floorCount] = standing;
                floorCount++;
            }
        }

        void addDrawing(long name) {
            if (takesDrawing()) {
                drawingName[drawingCount] = name;
                rodCount[drawingCount] = 0;
                drawingCount++;
            }
        }

        void addRod(long name, int from, int holds, int bearing) {
            if (takesRod()) {
                int drawing = drawingCount - 1;
                int at = drawing * MOST_RODS + rodCount[drawing];
                rodName[at] = name;
                rodFrom[at] = from;
                rodHolds[at] = holds;
                rodCan[at] = bearing;
                rodCount[drawing]++;
            }
        }

        int jointsOf(int drawing) {
            int count = 0;
            if (drawing >= 0 && drawing < drawingCount) {
                int start = drawing * MOST_RODS;
                for (int r = 0; r < rodCount[drawing]; r++) {
                    count += 1 + Integer.bitCount(rodHolds[start + r]);
                }
            }
            return count;
        }
    }

    private enum Kind { WORD, NUMBER, SIGN, END, NOTHING }

    /** Parts a text into tokens; the one at hand is told by kind, start, and word or number. */
    private static final class Tokens {
        private static final int MOST_LETTERS = 8;
        private static final int MOST_DIGITS = 4;

        private byte[] text = new byte[0];
        private int length = 0;
        private int at = 0;
        Kind kind = Kind.END;
        int start = 0;
        /** The letters as bytes, the last one lowest. */
        long word = 0;
        int number = 0;

        void begin(byte[] bytes, int count) {
            text = bytes;
            length = Math.min(count, bytes.length);
            at = 0;
            advance();
        }

        void advance() {
            while (at < length && (text[at] == ' ' || text[at] == '\n')) {
                at++;
            }
            start = at;
            if (at >= length) {
                kind = Kind.END;
            } else if (text[at] >= 'a' && text[at] <= 'z') {
                takeLetters();
            } else if (text[at] >= '0' && text[at] <= '9') {
                takeDigits();
            } else if (text[at] == ';') {
                kind = Kind.SIGN;
                at++;
            } else {
                kind = Kind.NOTHING;
            }
        }

        /** All letters that stand together are one word; too many of them are none. */
        private void takeLetters() {
            word = 0;
            while (at < length && text[at] >= 'a' && text[at] <= 'z') {
                word = word << 8 | text[at];
                at++;
            }
            kind = at - start <= MOST_LETTERS ? Kind.WORD : Kind.NOTHING;
        }

        /** Likewise of digits; with a letter directly behind them they are no number. */
        private void takeDigits() {
            number = 0;
            while (at < length && text[at] >= '0' && text[at] <= '9') {
                number = number * 10 + text[at] - '0';
                at++;
            }
            boolean letterBehind = at < length && text[at] >= 'a' && text[at] <= 'z';
            kind = at - start <= MOST_DIGITS && !letterBehind ? Kind.NUMBER : Kind.NOTHING;
        }

        boolean isWord(long wanted) {
            return kind == Kind.WORD && word == wanted;
        }
    }

    /** Reads a house line by line; stops at the first fault, which is the first by its place. */
    private static final class HouseReader {
        private static final int NO_TOKEN = 1;
        private static final int MISPLACED = 2;
        private static final int TOLD_ALREADY = 3;
        private static final int NO_SUCH_NUMBER = 4;
        private static final int NO_FLOOR = 5;
        private static final int NOT_FARTHER_DOWN = 6;

        // Words as their letters' bytes, as Tokens.word has them.
        private static final long FLOOR = 0x666c6f6f72L;
        private static final long WEIGHS = 0x776569676873L;
        private static final long CAN = 0x63616eL;
        private static final long STANDS = 0x7374616e6473L;
        private static final long DRAWING = 0x64726177696e67L;
        private static final long ROD = 0x726f64L;
        private static final long FROM = 0x66726f6dL;
        private static final long ROOF_WORD = 0x726f6f66L;
        private static final long BY = 0x6279L;
        private static final long[] NO_NAMES = {FLOOR, WEIGHS, CAN, STANDS, DRAWING, ROD, FROM, ROOF_WORD, BY};
        /** A reader's answer where a fault was found; ROOF is NONE, so it must be another one. */
        private static final int REFUSED = -2;

        private final Tokens tokens = new Tokens();
        private Plan plan = new Plan();
        int faultKind = 0;
        int faultPlace = NONE;

        boolean readHouse(byte[] text, int length, Plan into) {
            plan = into;
            plan.empty();
            faultKind = 0;
            faultPlace = NONE;
            tokens.begin(text, length);
            // Each line takes a byte at least, so there are no more lines than bytes.
            for (int line = 0; line < length && tokens.kind != Kind.END; line++) {
                if (!readLine()) {
                    return false;
                }
            }
            return true;
        }

        private boolean readLine() {
            boolean read;
            if (tokens.isWord(FLOOR) && plan.takesFloor()) {
                read = readFloor();
            } else if (tokens.isWord(DRAWING) && plan.takesDrawing()) {
                read = readDrawing();
            } else if (tokens.isWord(ROD) && plan.takesRod()) {
                read = readRod();
            } else {
                read = refuse(MISPLACED);
            }
            return read && takeSign();
        }

        private boolean readFloor() {
            tokens.advance();
            if (!isNewName(plan.floorCalled(tokens.word))) {
                return false;
            }
            long name = tokens.word;
            tokens.advance();
            int weighing = numberBehind(WEIGHS, 0, 999);
            int bearing = weighing < 0 ? REFUSED : numberBehind(CAN, 1, 9999);
            int standing = bearing < 0 ? REFUSED : numberBehind(STANDS, 0, 9);
            if (standing < 0) {
                return false;
            }
            plan.addFloor(name, weighing, bearing, standing);
            return true;
        }

        private boolean readDrawing() {
            tokens.advance();
            if (!isNewName(plan.drawingCalled(tokens.word))) {
                return false;
            }
            plan.addDrawing(tokens.word);
            tokens.advance();
            return true;
        }

        private boolean readRod() {
            tokens.advance();
            if (!isNewName(plan.rodCalled(plan.drawingCount - 1, tokens.word))) {
                return false;
            }
            long name = tokens.word;
            tokens.advance();
            if (!takeWord(FROM)) {
                return false;
            }
            int from = takeFrom();
            if (from == REFUSED || !takeWord(BY)) {
                return false;
            }
            int holds = takeHeld(from);
            int bearing = holds < 0 ? REFUSED : numberBehind(CAN, 1, 9999);
            if (bearing < 0) {
                return false;
            }
            plan.addRod(name, from, holds, bearing);
            return true;
        }

        private int takeFrom() {
            int from = ROOF;
            if (!tokens.isWord(ROOF_WORD)) {
                from = floorBelow(ROOF);
            }
            if (from != REFUSED) {
                tokens.advance();
            }
            return from;
        }

        /** The floors that a rod holds, as bits, up to the word behind them. */
        private int takeHeld(int from) {
            int holds = 0;
            int above = from;
            // No more than all floors can stand there, each farther down, and then the word behind them.
            for (int i = 0; i <= MOST_FLOORS; i++) {
                if (holds != 0 && tokens.isWord(CAN)) {
                    return holds;
                }
                above = floorBelow(above);
                if (above < 0) {
                    return REFUSED;
                }
                holds |= 1 << above;
                tokens.advance();
            }
            return REFUSED;
        }

        private int floorBelow(int above) {
            if (!isName()) {
                refuse(MISPLACED);
                return REFUSED;
            }
            int floor = plan.floorCalled(tokens.word);
            if (floor < 0) {
                refuse(NO_FLOOR);
                return REFUSED;
            }
            if (floor <= above) {
                refuse(NOT_FARTHER_DOWN);
                return REFUSED;
            }
            return floor;
        }

        private int numberBehind(long word, int least, int greatest) {
            boolean behindWord = tokens.isWord(word);
            if (behindWord) {
                tokens.advance();
            }
            if (!behindWord || tokens.kind != Kind.NUMBER) {
                refuse(MISPLACED);
                return REFUSED;
            }
            int number = tokens.number;
            if (number < least || number > greatest) {
                refuse(NO_SUCH_NUMBER);
                return REFUSED;
            }
            tokens.advance();
            return number;
        }

        private boolean takeWord(long word) {
            if (!tokens.isWord(word)) {
                return refuse(MISPLACED);
            }
            tokens.advance();
            return true;
        }

        private boolean takeSign() {
            if (tokens.kind != Kind.SIGN) {
                return refuse(MISPLACED);
            }
            tokens.advance();
            return true;
        }

        private boolean isNewName(int toldAt) {
            if (!isName()) {
                return refuse(MISPLACED);
            }
            return toldAt < 0 || refuse(TOLD_ALREADY);
        }

        private boolean isName() {
            if (tokens.kind != Kind.WORD) {
                return false;
            }
            for (int i = 0; i < NO_NAMES.length; i++) {
                if (tokens.word == NO_NAMES[i]) {
                    return false;
                }
            }
            return true;
        }

        /** Notes a fault at the token at hand; always false. */
        private boolean refuse(int kind) {
            faultKind = tokens.kind == Kind.NOTHING ? NO_TOKEN : kind;
            faultPlace = tokens.start;
            return false;
        }
    }

    /**
     * One drawing, as it hangs while it is being reckoned: rods may go, let go of floors or be hung
     * elsewhere here. All that is borne is kept in whole units of 1 / unit(), so that it is exact.
     */
    private static final class Frame {
        Plan plan = new Plan();
        private int firstRod = 0;
        int drawing = 0;
        int rodCount = 0;
        final int[] from = new int[MOST_RODS];
        final int[] holds = new int[MOST_RODS];
        /** Rods that are no more, as bits. */
        int gone = 0;
        final int[] holders = new int[MOST_FLOORS];
        final long[] own = new long[MOST_FLOORS];
        final long[] weightOf = new long[MOST_FLOORS];
        final long[] shareOf = new long[MOST_FLOORS];
        final long[] bornByRod = new long[MOST_RODS];
        private long scale = 1;
        int jointCount = 0;
        final int[] jointRod = new int[MOST_JOINTS];
        final int[] jointFloor = new int[MOST_JOINTS];

        void draw(Plan told, int number) {
            plan = told;
            drawing = number;
            firstRod = number * MOST_RODS;
            rodCount = told.rodCount[number];
            gone = 0;
            jointCount = 0;
            for (int r = 0; r < rodCount; r++) {
                from[r] = told.rodFrom[firstRod + r];
                holds[r] = told.rodHolds[firstRod + r];
                addJoint(r, NONE);
                for (int f = 0; f < told.floorCount; f++) {
                    if (isHeldBy(r, f)) {
                        addJoint(r, f);
                    }
                }
            }
        }

        private void addJoint(int rod, int floor) {
            if (jointCount < MOST_JOINTS) {
                jointRod[jointCount] = rod;
                jointFloor[jointCount] = floor;
                jointCount++;
            }
        }

        void loadNobody() {
            for (int f = 0; f < plan.floorCount; f++) {
                own[f] = (long) TENTHS * plan.weighs[f];
            }
        }

        void loadPeople(int[] people, int move) {
            loadNobody();
            for (int f = 0; f < plan.floorCount && f < people.length; f++) {
                own[f] += (long) people[f] * (TENTHS + move);
            }
        }

        /** One person and nothing else, not even the floors' own weight. */
        void loadOnlyOne(int floor, int move) {
            for (int f = 0; f < plan.floorCount; f++) {
                own[f] = f == floor ? TENTHS + move : 0;
            }
        }

        /** The drawing must have been reckoned, with whomever else on its floors. */
        boolean isBeyondWith(int floor, int people, int move) {
            own[floor] = (long) TENTHS * plan.weighs[floor] + (long) people * (TENTHS + move);
            passUp();
            return isAnyBeyond();
        }

        void reckon() {
            countHolders();
            passUp();
        }

        /** From below up: a rod holds only floors farther down than where it hangs. */
        private void passUp() {
            for (int r = 0; r < rodCount; r++) {
                bornByRod[r] = 0;
            }
            for (int f = plan.floorCount - 1; f >= 0; f--) {
                long weight = own[f] * scale;
                for (int r = 0; r < rodCount; r++) {
                    if (from[r] == f && isThere(r)) {
                        weight += bornByRod[r];
                    }
                }
                weightOf[f] = weight;
                shareOf[f] = holders[f] > 0 ? weight / holders[f] : 0;
                for (int r = 0; r < rodCount; r++) {
                    if (isHeldBy(r, f)) {
                        bornByRod[r] += shareOf[f];
                    }
                }
            }
        }

        /** The scale is a multiple of all that weights are ever divided by, one floor above the other. */
        private void countHolders() {
            scale = 1;
            for (int f = 0; f < plan.floorCount; f++) {
                int count = 0;
                for (int r = 0; r < rodCount; r++) {
                    if (isHeldBy(r, f)) {
                        count++;
                    }
                }
                holders[f] = count;
                scale *= Math.max(1, count);
            }
        }

        long unit() {
            return scale * TENTHS;
        }

        boolean isThere(int rod) {
            return (gone >> rod & 1) == 0;
        }

        boolean isHeldBy(int rod, int floor) {
            return isThere(rod) && (holds[rod] >> floor & 1) != 0;
        }

        private boolean isJointThere(int joint) {
            int floor = jointFloor[joint];
            return floor < 0 ? isThere(jointRod[joint]) : isHeldBy(jointRod[joint], floor);
        }

        long bornBy(int joint) {
            int floor = jointFloor[joint];
            return floor < 0 ? bornByRod[jointRod[joint]] : shareOf[floor];
        }

        int canOf(int joint) {
            int floor = jointFloor[joint];
            return floor < 0 ? canWhereHung(jointRod[joint]) : plan.can[floor];
        }

        int canWhereHung(int rod) {
            return from[rod] < 0 ? plan.rodCan[firstRod + rod] : plan.can[from[rod]];
        }

        boolean isBeyond(int joint) {
            return isJointThere(joint) && bornBy(joint) > canOf(joint) * unit();
        }

        /** All nuts of a floor bear the same and can the same, so one look at the floor does for them. */
        boolean isAnyBeyond() {
            for (int r = 0; r < rodCount; r++) {
                if (isThere(r) && bornByRod[r] > canWhereHung(r) * unit()) {
                    return true;
                }
            }
            for (int f = 0; f < plan.floorCount; f++) {
                if (holders[f] > 0 && shareOf[f] > plan.can[f] * unit()) {
                    return true;
                }
            }
            return false;
        }

        int countBeyond() {
            int count = 0;
            for (int j = 0; j < jointCount; j++) {
                if (isBeyond(j)) {
                    count++;
                }
            }
            return count;
        }

        int worstJoint() {
            int worst = NONE;
            for (int j = 0; j < jointCount; j++) {
                if (isJointThere(j) && (worst < 0 || bornBy(j) * canOf(worst) > bornBy(worst) * canOf(j))) {
                    worst = j;
                }
            }
            return worst;
        }

        int openFloors() {
            int held = 0;
            for (int r = 0; r < rodCount; r++) {
                held |= isThere(r) ? holds[r] : 0;
            }
            return ~held & (1 << plan.floorCount) - 1;
        }

        int doubleFloors() {
            int hungFrom = 0;
            for (int r = 0; r < rodCount; r++) {
                hungFrom |= from[r] < 0 ? 0 : 1 << from[r];
            }
            return hungFrom & ~openFloors();
        }

        /**
         * Of the rods, as bits, the fewest that hung from the roof leave nothing beyond; NONE if none do.
         * The drawing must have been reckoned: which rods hold a floor stays as it is.
         */
        int fewestToRoof() {
            int roofed = rodsFromRoof();
            int best = NONE;
            for (int rods = 0; rods < 1 << rodCount; rods++) {
                boolean better = best < 0 || Integer.bitCount(rods) < Integer.bitCount(best);
                if (better && (rods & roofed) == 0) {
                    hangFromRoof(rods);
                    passUp();
                    best = isAnyBeyond() ? best : rods;
                }
            }
            return best;
        }

        private int rodsFromRoof() {
            int rods = 0;
            for (int r = 0; r < rodCount; r++) {
                rods |= from[r] < 0 ? 1 << r : 0;
            }
            return rods;
        }

        private void hangFromRoof(int rods) {
            for (int r = 0; r < rodCount; r++) {
                from[r] = (rods >> r & 1) != 0 ? ROOF : plan.rodFrom[firstRod + r];
            }
        }

        /** How many joints, by what they bear, are looked at until one beyond is met; 0 if none is. */
        int looksNeeded() {
            int met = NONE;
            for (int j = 0; j < jointCount; j++) {
                if (isBeyond(j) && (met < 0 || bornBy(j) > bornBy(met))) {
                    met = j;
                }
            }
            if (met < 0) {
                return 0;
            }
            int looks = 1;
            for (int j = 0; j < jointCount; j++) {
                if (bornBy(j) > bornBy(met) || bornBy(j) == bornBy(met) && j < met) {
                    looks++;
                }
            }
            return looks;
        }

        /** The joint of the other frame that is the same as one of this, or NONE. */
        private int sameIn(Frame other, int joint) {
            int there = other.plan.rodCalled(other.drawing, plan.rodName[firstRod + jointRod[joint]]);
            for (int j = 0; there >= 0 && j < other.jointCount; j++) {
                if (other.firstRod + other.jointRod[j] == there && other.jointFloor[j] == jointFloor[joint]) {
                    return j;
                }
            }
            return NONE;
        }

        int countSame(Frame other) {
            int count = 0;
            for (int j = 0; j < jointCount; j++) {
                if (sameIn(other, j) >= 0) {
                    count++;
                }
            }
            return count;
        }

        int countMore(Frame other) {
            int count = 0;
            for (int j = 0; j < jointCount; j++) {
                int same = sameIn(other, j);
                if (same >= 0 && other.bornBy(same) * scale > bornBy(j) * other.scale) {
                    count++;
                }
            }
            return count;
        }

        int countTwice(Frame other) {
            int count = 0;
            for (int j = 0; j < jointCount; j++) {
                int same = sameIn(other, j);
                if (same >= 0 && other.bornBy(same) > 0 && other.bornBy(same) * scale >= 2 * bornBy(j) * other.scale) {
                    count++;
                }
            }
            return count;
        }
    }

    /** What goes, one after the other, and what falls. */
    private static final class Fall {
        int fallen = 0;
        int wentCount = 0;
        final int[] went = new int[MOST_JOINTS];

        void run(Frame frame) {
            int open = frame.openFloors();
            fallen = 0;
            wentCount = 0;
            for (int i = 0; i < MOST_JOINTS; i++) {
                int worst = frame.worstJoint();
                if (worst < 0 || !frame.isBeyond(worst)) {
                    return;
                }
                went[wentCount] = worst;
                wentCount++;
                letGo(frame, worst);
                dropFloors(frame, open);
                frame.reckon();
            }
        }

        private static void letGo(Frame frame, int joint) {
            int rod = frame.jointRod[joint];
            int floor = frame.jointFloor[joint];
            if (floor < 0) {
                frame.gone |= 1 << rod;
            } else {
                frame.holds[rod] &= ~(1 << floor);
            }
        }

        /** From above down, once: what falls takes only rods that hold floors farther down. */
        private void dropFloors(Frame frame, int open) {
            for (int f = 0; f < MOST_FLOORS; f++) {
                if ((frame.openFloors() & ~open & 1 << f) != 0) {
                    fallen |= 1 << f;
                    for (int r = 0; r < frame.rodCount; r++) {
                        frame.gone |= frame.from[r] == f ? 1 << r : 0;
                    }
                }
            }
        }
    }

    /** People who stand by lot: all ways that there are, and the bad ones, in which a joint is beyond. */
    private static final class Crowd {
        private static final int MOST_CHECKS = MOST_RODS + MOST_FLOORS;

        /** What is borne at each check, with the people on the floors above this one. */
        private final long[][] borne = new long[MOST_FLOORS + 1][MOST_CHECKS];
        /** What one person on a floor adds to each check. */
        private final long[][] added = new long[MOST_FLOORS][MOST_CHECKS];
        private final long[] limit = new long[MOST_CHECKS];
        private int checks = 0;
        private int[] stands = new int[MOST_FLOORS];
        private int floorCount = 0;
        /** All stands from this floor on downward. */
        private final int[] standsFrom = new int[MOST_FLOORS + 1];
        long bad = 0;
        /** 0 if people can't stand anywhere. */
        long all = 0;

        void gather(Frame frame, int people, int move) {
            stands = frame.plan.stands;
            floorCount = frame.plan.floorCount;
            standsFrom[floorCount] = 0;
            for (int f = floorCount - 1; f >= 0; f--) {
                standsFrom[f] = standsFrom[f + 1] + stands[f];
            }
            frame.loadNobody();
            frame.reckon();
            noteLimits(frame);
            noteBorne(frame, borne[0]);
            for (int f = 0; f < floorCount; f++) {
                frame.loadOnlyOne(f, move);
                frame.reckon();
                noteBorne(frame, added[f]);
            }
            keepWhatMatters(people);
            all = power(standsFrom[0], people);
            bad = badWays(0, people);
        }

        private void noteLimits(Frame frame) {
            checks = frame.rodCount + floorCount;
            for (int r = 0; r < frame.rodCount; r++) {
                limit[r] = frame.canWhereHung(r) * frame.unit();
            }
            for (int f = 0; f < floorCount; f++) {
                limit[frame.rodCount + f] = frame.plan.can[f] * frame.unit();
            }
        }

        /** An open floor has no nut: its share is 0 and never beyond. */
        private void noteBorne(Frame frame, long[] row) {
            for (int r = 0; r < frame.rodCount; r++) {
                row[r] = frame.bornByRod[r];
            }
            for (int f = 0; f < floorCount; f++) {
                row[frame.rodCount + f] = frame.shareOf[f];
            }
        }

        /** Drops the checks that hold wherever all people stand: most do, and each costs at every way. */
        private void keepWhatMatters(int people) {
            int kept = 0;
            for (int c = 0; c < checks; c++) {
                long greatest = 0;
                for (int f = 0; f < floorCount; f++) {
                    greatest = stands[f] > 0 ? Math.max(greatest, added[f][c]) : greatest;
                }
                if (borne[0][c] + people * greatest > limit[c]) {
                    limit[kept] = limit[c];
                    borne[0][kept] = borne[0][c];
                    for (int f = 0; f < floorCount; f++) {
                        added[f][kept] = added[f][c];
                    }
                    kept++;
                }
            }
            checks = kept;
        }

        /** Of the ways for those left to stand on this floor and the ones below it, the bad ones. */
        private long badWays(int floor, int left) {
            if (isBadAt(floor)) {
                return power(standsFrom[floor], left);
            }
            if (floor >= floorCount || standsFrom[floor] == 0 || checks == 0) {
                return 0;
            }
            long sum = 0;
            long ways = 1;
            boolean lastToStandOn = standsFrom[floor + 1] == 0;
            for (int here = 0; here <= left && ways > 0; here++) {
                if (here == left || !lastToStandOn) {
                    standHere(floor, here);
                    sum += ways * badWays(floor + 1, left - here);
                }
                // Ways to choose one more of those left, times the places here for that one.
                ways = ways * (left - here) / (here + 1) * stands[floor];
            }
            return sum;
        }

        private void standHere(int floor, int people) {
            for (int c = 0; c < checks; c++) {
                borne[floor + 1][c] = borne[floor][c] + people * added[floor][c];
            }
        }

        private boolean isBadAt(int floor) {
            for (int c = 0; c < checks; c++) {
                if (borne[floor][c] > limit[c]) {
                    return true;
                }
            }
            return false;
        }

        private static long power(int base, int exponent) {
            long product = 1;
            for (int i = 0; i < exponent; i++) {
                product *= base;
            }
            return product;
        }
    }

    /** Nuts by their ratio, the greatest first, of like ones as they came. */
    private static final class Ranking {
        private static final int MOST_NUTS = (MOST_DRAWINGS - 1) * MOST_RODS * MOST_FLOORS;

        private int count = 0;
        private final int[] code = new int[MOST_NUTS];
        private final long[] upper = new long[MOST_NUTS];
        private final long[] lower = new long[MOST_NUTS];

        void start() {
            count = 0;
        }

        void addDoubleNuts(Frame frame) {
            int doubles = frame.doubleFloors();
            for (int j = 0; j < frame.jointCount; j++) {
                int floor = frame.jointFloor[j];
                if (floor >= 0 && (doubles >> floor & 1) != 0) {
                    insert(100 * frame.drawing + j, frame.bornBy(j), frame.canOf(j) * frame.unit());
                }
            }
        }

        private void insert(int newCode, long newUpper, long newLower) {
            if (count >= MOST_NUTS) {
                return;
            }
            int at = count;
            while (at > 0 && Fractions.order(newUpper, newLower, upper[at - 1], lower[at - 1]) > 0) {
                code[at] = code[at - 1];
                upper[at] = upper[at - 1];
                lower[at] = lower[at - 1];
                at--;
            }
            code[at] = newCode;
            upper[at] = newUpper;
            lower[at] = newLower;
            count++;
        }

        int codeAt(int i) {
            return i >= 0 && i < count ? code[i] : NONE;
        }
    }

    /** Papers in the order in which they were told; untold ones stay, for what was known before. */
    private static final class Papers {
        int count = 0;
        final int[] office = new int[MOST_PAPERS];
        final int[] day = new int[MOST_PAPERS];
        final int[] drawing = new int[MOST_PAPERS];
        private final int[] hours = new int[MOST_PAPERS];
        private final boolean[] stamped = new boolean[MOST_PAPERS];
        private final int[] toldAt = new int[MOST_PAPERS];
        /** NONE as long as it is not untold. */
        private final int[] untoldAt = new int[MOST_PAPERS];
        private int storyCount = 0;
        private final int[] storyPaper = new int[MOST_STORIES];
        private final int[] storyOne = new int[MOST_STORIES];
        private final int[] storyOther = new int[MOST_STORIES];

        void forgetAll() {
            count = 0;
            storyCount = 0;
        }

        int tell(int byOffice, int onDay, int ofDrawing, int spentHours, boolean withStamp, int time) {
            if (count >= MOST_PAPERS) {
                return NONE;
            }
            office[count] = byOffice;
            day[count] = onDay;
            drawing[count] = ofDrawing;
            hours[count] = spentHours;
            stamped[count] = withStamp;
            toldAt[count] = time;
            untoldAt[count] = NONE;
            count++;
            return count - 1;
        }

        boolean takeBack(int number, int time) {
            if (!isPaper(number) || untoldAt[number] >= 0) {
                return false;
            }
            untoldAt[number] = time;
            return true;
        }

        private boolean isPaper(int number) {
            return number >= 0 && number < count;
        }

        private boolean isKnown(int number, int k) {
            boolean untold = untoldAt[number] >= 0 && untoldAt[number] <= k;
            return toldAt[number] <= k && !untold;
        }

        private boolean isOf(int number, int byOffice, int ofDrawing) {
            return office[number] == byOffice && drawing[number] == ofDrawing;
        }

        int hoursUpTo(int byOffice, int ofDrawing, int lastDay, int k) {
            int sum = 0;
            for (int p = 0; p < count; p++) {
                if (day[p] <= lastDay && isOf(p, byOffice, ofDrawing) && isKnown(p, k)) {
                    sum += hours[p];
                }
            }
            return sum;
        }

        /** A paper of the day and office that had spent the hours needed (above 0) first, or NONE. */
        int firstToReckon(int ofDrawing, int needed, int k) {
            int best = NONE;
            for (int p = 0; p < count; p++) {
                boolean better = best < 0 || day[p] < day[best] || day[p] == day[best] && office[p] < office[best];
                if (better && drawing[p] == ofDrawing && isKnown(p, k)
                        && hoursUpTo(office[p], ofDrawing, day[p], k) >= needed) {
                    best = p;
                }
            }
            return best;
        }

        boolean isHollow(int number, int needed, int k) {
            if (!isPaper(number) || !stamped[number] || !isKnown(number, k)) {
                return false;
            }
            int still = needed;
            for (int p = 0; p < count; p++) {
                boolean ahead = day[p] < day[number] || day[p] == day[number] && p < number;
                if (ahead && isOf(p, office[number], drawing[number]) && isKnown(p, k)) {
                    still -= hours[p];
                }
            }
            return hours[number] < still;
        }

        boolean letBear(int number, int one, int other) {
            if (!isPaper(number) || storyCount >= MOST_STORIES) {
                return false;
            }
            for (int s = 0; s < storyCount; s++) {
                if (storyPaper[s] == number) {
                    return false;
                }
            }
            storyPaper[storyCount] = number;
            storyOne[storyCount] = one;
            storyOther[storyCount] = other;
            storyCount++;
            return true;
        }

        long oddsTogether(boolean ofFirstStory, int k) {
            long product = 1;
            for (int s = 0; s < storyCount; s++) {
                if (isKnown(storyPaper[s], k)) {
                    product *= ofFirstStory ? storyOne[s] : storyOther[s];
                }
            }
            return product;
        }
    }
}
