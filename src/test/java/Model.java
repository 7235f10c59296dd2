import java.math.BigInteger;
import java.util.ArrayList;
import java.util.Comparator;
import java.util.HashMap;
import java.util.List;
import java.util.Map;
import java.util.Set;
import java.util.TreeSet;
import java.util.regex.Matcher;
import java.util.regex.Pattern;

/** The document told once more, as plainly as can be and without a look at speed. */
final class Model {
    static final Set<String> OWN_WORDS =
            Set.of("floor", "weighs", "can", "stands", "drawing", "rod", "from", "roof", "by");

    record Frac(BigInteger up, BigInteger low) implements Comparable<Frac> {
        static final Frac ZERO = of(0, 1);

        static Frac of(BigInteger up, BigInteger low) {
            BigInteger g = up.gcd(low);
            return new Frac(up.divide(g), low.divide(g));
        }

        static Frac of(long up, long low) {
            return of(BigInteger.valueOf(up), BigInteger.valueOf(low));
        }

        Frac plus(Frac o) {
            return of(up.multiply(o.low).add(o.up.multiply(low)), low.multiply(o.low));
        }

        Frac by(long n) {
            return of(up, low.multiply(BigInteger.valueOf(n)));
        }

        Frac times(long n) {
            return of(up.multiply(BigInteger.valueOf(n)), low);
        }

        long part(int part) {
            return part == 0 ? up.longValueExact() : part == 1 ? low.longValueExact() : -1;
        }

        @Override
        public int compareTo(Frac o) {
            return up.multiply(o.low).compareTo(o.up.multiply(low));
        }
    }

    record Floor(String name, int weighs, int can, int stands) {
    }

    static final class Rod {
        String name;
        int from;
        TreeSet<Integer> holds = new TreeSet<>();
        int can;

        Rod copy() {
            Rod r = new Rod();
            r.name = name;
            r.from = from;
            r.holds = new TreeSet<>(holds);
            r.can = can;
            return r;
        }
    }

    record Drawing(String name, List<Rod> rods) {
        Drawing copy() {
            List<Rod> copies = new ArrayList<>();
            for (Rod r : rods) {
                copies.add(r == null ? null : r.copy());
            }
            return new Drawing(name, copies);
        }
    }

    record Joint(int number, int rod, int floor) {
    }

    static final class Paper {
        int office, day, drawing, hours, told, untold = Integer.MAX_VALUE;
        boolean stamped;
        int a = -1, b = -1;

        boolean counts(int k) {
            return told <= k && untold > k;
        }
    }

    List<Floor> floors = new ArrayList<>();
    List<Drawing> drawings = new ArrayList<>();
    StringBuilder tape = new StringBuilder();
    int fault = 0, place = -1;
    int[] live = new int[6];
    int move = 0;
    List<Paper> papers = new ArrayList<>();
    int time = 0;

    // ---- the text

    private static final class Fault extends RuntimeException {
        private static final long serialVersionUID = 1;
        final int kind, place;

        Fault(int kind, int place) {
            this.kind = kind;
            this.place = place;
        }
    }

    private static final Pattern TOKEN = Pattern.compile("\\G[ \\n]*(?:([a-z]+)|([0-9]+(?:[a-z](?s:.*))?)|(;)|(\\z)|())");

    private static final class Text {
        final String text;
        final List<String> tokens = new ArrayList<>();
        final List<Integer> places = new ArrayList<>();
        int at = 0;

        Text(String text) {
            this.text = text;
            Matcher m = TOKEN.matcher(text);
            while (m.find()) {
                int group = 1;
                while (m.group(group) == null) {
                    group++;
                }
                boolean none = group == 5 || group != 4 && !m.group(group).matches("[a-z]{1,8}|[0-9]{1,4}|;");
                tokens.add(none ? "?" : m.group(group));
                places.add(m.start(group));
                if (none || group == 4) {
                    return;
                }
            }
        }

        String token() {
            return tokens.get(at);
        }

        Fault fault(int kind) {
            return new Fault(token().equals("?") ? 1 : kind, places.get(at));
        }

        void word(String w) {
            if (!token().equals(w)) {
                throw fault(2);
            }
            at++;
        }

        boolean isName() {
            return token().matches("[a-z]+") && !OWN_WORDS.contains(token());
        }

        String name() {
            if (!isName()) {
                throw fault(2);
            }
            return tokens.get(at++);
        }

        int number(int least, int most) {
            if (!token().matches("[0-9]+")) {
                throw fault(2);
            }
            int n = Integer.parseInt(token());
            if (n < least || n > most) {
                throw fault(4);
            }
            at++;
            return n;
        }
    }

    int house() {
        List<Floor> fs = new ArrayList<>();
        List<Drawing> ds = new ArrayList<>();
        try {
            parse(new Text(tape.toString()), fs, ds);
        } catch (Fault f) {
            fault = f.kind;
            place = f.place;
            return -1;
        }
        fault = 0;
        place = -1;
        floors = fs;
        drawings = ds;
        tape.setLength(0);
        live = new int[6];
        move = 0;
        papers.clear();
        return ds.size();
    }

    private static void parse(Text t, List<Floor> fs, List<Drawing> ds) {
        while (!t.token().isEmpty()) {
            List<Rod> rods = ds.isEmpty() ? null : ds.get(ds.size() - 1).rods;
            if (t.token().equals("floor")) {
                if (fs.size() == 6 || !ds.isEmpty()) {
                    throw t.fault(2);
                }
                t.at++;
                for (Floor f : fs) {
                    if (f.name.equals(t.token())) {
                        throw t.fault(3);
                    }
                }
                String name = t.name();
                t.word("weighs");
                int weighs = t.number(0, 999);
                t.word("can");
                int can = t.number(1, 9999);
                t.word("stands");
                fs.add(new Floor(name, weighs, can, t.number(0, 9)));
            } else if (t.token().equals("drawing")) {
                if (ds.size() == 4) {
                    throw t.fault(2);
                }
                t.at++;
                for (Drawing d : ds) {
                    if (d.name.equals(t.token())) {
                        throw t.fault(3);
                    }
                }
                ds.add(new Drawing(t.name(), new ArrayList<>()));
            } else if (t.token().equals("rod") && rods != null && rods.size() < 10) {
                t.at++;
                for (Rod r : rods) {
                    if (r.name.equals(t.token())) {
                        throw t.fault(3);
                    }
                }
                rods.add(parseRod(t, fs));
            } else {
                throw t.fault(2);
            }
            t.word(";");
        }
    }

    private static Rod parseRod(Text t, List<Floor> fs) {
        Rod rod = new Rod();
        rod.name = t.name();
        t.word("from");
        if (t.token().equals("roof")) {
            rod.from = -1;
            t.at++;
        } else {
            rod.from = floorNamed(t, fs, -1);
        }
        t.word("by");
        int above = rod.from;
        do {
            above = floorNamed(t, fs, above);
            rod.holds.add(above);
        } while (!t.token().equals("can"));
        t.word("can");
        rod.can = t.number(1, 9999);
        return rod;
    }

    private static int floorNamed(Text t, List<Floor> fs, int above) {
        if (!t.isName()) {
            throw t.fault(2);
        }
        for (int f = 0; f < fs.size(); f++) {
            if (fs.get(f).name.equals(t.token())) {
                if (f <= above) {
                    throw t.fault(6);
                }
                t.at++;
                return f;
            }
        }
        throw t.fault(5);
    }

    // ---- what bears what

    /** A drawing (a rod that is no more is null) under people who move. */
    final class Hung {
        final Drawing d;
        final int[] on;
        final int moving;

        Hung(Drawing d, int[] on, int moving) {
            this.d = d;
            this.on = on;
            this.moving = moving;
        }

        int holders(int f) {
            int n = 0;
            for (Rod r : d.rods) {
                n += r != null && r.holds.contains(f) ? 1 : 0;
            }
            return n;
        }

        Frac weight(int f) {
            Frac w = Frac.of(10L * floors.get(f).weighs + (long) on[f] * (10 + moving), 10);
            for (int r = 0; r < d.rods.size(); r++) {
                if (d.rods.get(r) != null && d.rods.get(r).from == f) {
                    w = w.plus(rodBears(r));
                }
            }
            return w;
        }

        Frac rodBears(int r) {
            Frac sum = Frac.ZERO;
            for (int f : d.rods.get(r).holds) {
                sum = sum.plus(weight(f).by(holders(f)));
            }
            return sum;
        }

        Frac bears(Joint j) {
            return j.floor < 0 ? rodBears(j.rod) : weight(j.floor).by(holders(j.floor));
        }

        int can(Joint j) {
            Rod r = d.rods.get(j.rod);
            if (j.floor >= 0) {
                return floors.get(j.floor).can;
            }
            return r.from < 0 ? r.can : floors.get(r.from).can;
        }

        Frac ratio(Joint j) {
            return bears(j).by(can(j));
        }

        boolean beyond(Joint j) {
            return bears(j).compareTo(Frac.of(can(j), 1)) > 0;
        }

        boolean is(Joint j) {
            Rod r = d.rods.get(j.rod);
            return r != null && (j.floor < 0 || r.holds.contains(j.floor));
        }

        List<Joint> beyondOf(List<Joint> all) {
            List<Joint> some = new ArrayList<>();
            for (Joint j : all) {
                if (is(j) && beyond(j)) {
                    some.add(j);
                }
            }
            return some;
        }

        int worst(List<Joint> all) {
            Joint worst = null;
            for (Joint j : all) {
                if (is(j) && (worst == null || ratio(j).compareTo(ratio(worst)) > 0)) {
                    worst = j;
                }
            }
            return worst == null ? -1 : worst.number;
        }
    }

    Hung now(int d) {
        return new Hung(drawings.get(d), live, move);
    }

    List<Joint> jointsOf(int d) {
        List<Joint> all = new ArrayList<>();
        List<Rod> rods = drawings.get(d).rods;
        for (int r = 0; r < rods.size(); r++) {
            all.add(new Joint(all.size(), r, -1));
            for (int f : rods.get(r).holds) {
                all.add(new Joint(all.size(), r, f));
            }
        }
        return all;
    }

    boolean isD(int d) {
        return d >= 0 && d < drawings.size();
    }

    boolean isF(int f) {
        return f >= 0 && f < floors.size();
    }

    Joint jointAt(int d, int j) {
        return isD(d) && j >= 0 && j < jointsOf(d).size() ? jointsOf(d).get(j) : null;
    }

    // ---- the calls

    int joint(int d, int j, int what) {
        Joint at = jointAt(d, j);
        if (at == null || what < 0 || what > 3) {
            return -1;
        }
        return what == 0 ? at.rod : what == 1 ? at.floor : what == 2 ? now(d).can(at) : now(d).beyond(at) ? 1 : 0;
    }

    long bears(int d, int j, int part) {
        Joint at = jointAt(d, j);
        return at == null ? -1 : now(d).bears(at).part(part);
    }

    long weight(int d, int f, int part) {
        return isD(d) && isF(f) ? now(d).weight(f).part(part) : -1;
    }

    int beyond(int d) {
        return isD(d) ? now(d).beyondOf(jointsOf(d)).size() : -1;
    }

    int worst(int d) {
        return isD(d) ? now(d).worst(jointsOf(d)) : -1;
    }

    /** What went, in order, and last the floors that have fallen, as bits. */
    List<Integer> falls(int d) {
        List<Joint> all = jointsOf(d);
        Hung h = new Hung(drawings.get(d).copy(), live, move);
        int open = open(d);
        int fallen = 0;
        List<Integer> went = new ArrayList<>();
        while (!h.beyondOf(all).isEmpty()) {
            Joint j = all.get(h.worst(all));
            went.add(j.number);
            if (j.floor < 0) {
                h.d.rods.set(j.rod, null);
            } else {
                h.d.rods.get(j.rod).holds.remove(j.floor);
            }
            boolean again = true;
            while (again) {
                again = false;
                for (int f = floors.size() - 1; f >= 0; f--) {
                    if ((open >> f & 1) == 0 && (fallen >> f & 1) == 0 && h.holders(f) == 0) {
                        fallen |= 1 << f;
                        again = true;
                        for (int r = 0; r < h.d.rods.size(); r++) {
                            if (h.d.rods.get(r) != null && h.d.rods.get(r).from == f) {
                                h.d.rods.set(r, null);
                            }
                        }
                    }
                }
            }
        }
        went.add(fallen);
        return went;
    }

    int fall(int d, int what) {
        if (!isD(d) || what < 0 || what > 1) {
            return -1;
        }
        List<Integer> went = falls(d);
        return what == 0 ? went.get(went.size() - 1) : went.size() - 1;
    }

    int goes(int d, int i) {
        if (!isD(d)) {
            return -1;
        }
        List<Integer> went = falls(d);
        return i >= 0 && i < went.size() - 1 ? went.get(i) : -1;
    }

    int change(int from, int to, int what) {
        if (!isD(from) || !isD(to) || what < 0 || what > 3) {
            return -1;
        }
        int more = 0, twice = 0, left = 0, same = 0;
        for (Joint a : jointsOf(from)) {
            Joint found = null;
            for (Joint b : jointsOf(to)) {
                String nameA = drawings.get(from).rods.get(a.rod).name;
                String nameB = drawings.get(to).rods.get(b.rod).name;
                if (nameA.equals(nameB) && a.floor == b.floor) {
                    found = b;
                }
            }
            if (found == null) {
                left++;
                continue;
            }
            same++;
            Frac before = now(from).bears(a), after = now(to).bears(found);
            more += after.compareTo(before) > 0 ? 1 : 0;
            twice += after.compareTo(before.times(2)) >= 0 && after.compareTo(Frac.ZERO) > 0 ? 1 : 0;
        }
        return what == 0 ? more : what == 1 ? twice : what == 2 ? left : same;
    }

    int weak() {
        return isD(0) ? new Hung(drawings.get(0), new int[6], 0).beyondOf(jointsOf(0)).size() : -1;
    }

    int open(int d) {
        int bits = 0;
        for (int f = 0; f < floors.size(); f++) {
            bits |= now(d).holders(f) == 0 ? 1 << f : 0;
        }
        return bits;
    }

    int doubles(int d) {
        int bits = 0;
        for (Rod r : drawings.get(d).rods) {
            bits |= r.from >= 0 && now(d).holders(r.from) > 0 ? 1 << r.from : 0;
        }
        return bits;
    }

    int floorsBits(int d, int what) {
        return !isD(d) || what < 0 || what > 1 ? -1 : what == 0 ? open(d) : doubles(d);
    }

    int mend(int d, int what) {
        if (!isD(d) || what < 0 || what > 1) {
            return -1;
        }
        int n = drawings.get(d).rods.size();
        for (int size = 0; size <= n; size++) {
            for (int bits = 0; bits < 1 << n; bits++) {
                if (Integer.bitCount(bits) != size) {
                    continue;
                }
                Drawing copy = drawings.get(d).copy();
                boolean fine = true;
                for (int r = 0; r < n; r++) {
                    if ((bits >> r & 1) != 0) {
                        fine &= copy.rods.get(r).from >= 0;
                        copy.rods.get(r).from = -1;
                    }
                }
                if (fine && new Hung(copy, live, move).beyondOf(jointsOf(d)).isEmpty()) {
                    return what == 0 ? size : bits;
                }
            }
        }
        return -1;
    }

    long odds(int d, int n, int m, int part) {
        if (!isD(d) || n < 0 || n > 10 || m < 0 || m > 20 || part < 0 || part > 1) {
            return -1;
        }
        Map<List<Integer>, BigInteger> ways = new HashMap<>();
        ways.put(List.of(0, 0, 0, 0, 0, 0), BigInteger.ONE);
        for (int i = 0; i < n; i++) {
            Map<List<Integer>, BigInteger> next = new HashMap<>();
            for (Map.Entry<List<Integer>, BigInteger> e : ways.entrySet()) {
                for (int f = 0; f < floors.size(); f++) {
                    if (floors.get(f).stands > 0) {
                        List<Integer> more = new ArrayList<>(e.getKey());
                        more.set(f, more.get(f) + 1);
                        next.merge(more, e.getValue().multiply(BigInteger.valueOf(floors.get(f).stands)),
                                BigInteger::add);
                    }
                }
            }
            ways = next;
        }
        if (ways.isEmpty()) {
            return -1;
        }
        BigInteger all = BigInteger.ZERO, bad = BigInteger.ZERO;
        for (Map.Entry<List<Integer>, BigInteger> e : ways.entrySet()) {
            int[] on = new int[6];
            for (int f = 0; f < 6; f++) {
                on[f] = e.getKey().get(f);
            }
            all = all.add(e.getValue());
            if (!new Hung(drawings.get(d), on, m).beyondOf(jointsOf(d)).isEmpty()) {
                bad = bad.add(e.getValue());
            }
        }
        return Frac.of(bad, all).part(part);
    }

    int most(int d, int f) {
        if (!isD(d) || !isF(f)) {
            return -1;
        }
        int[] on = live.clone();
        int most = -1;
        for (int n = 0; n <= 999; n++) {
            on[f] = n;
            if (!new Hung(drawings.get(d), on, move).beyondOf(jointsOf(d)).isEmpty()) {
                break;
            }
            most = n;
        }
        return most;
    }

    int rule(int what) {
        if (what < 0 || what > 1) {
            return -1;
        }
        int r = 0;
        for (int d = 0; d < drawings.size(); d++) {
            Hung h = now(d);
            List<Joint> all = jointsOf(d);
            all.sort(Comparator.comparing(h::bears).reversed());
            for (int i = 0; i < all.size(); i++) {
                if (h.beyond(all.get(i))) {
                    r = Math.max(r, i + 1);
                    break;
                }
            }
        }
        int hours = 0;
        for (int d = 0; d < drawings.size(); d++) {
            hours += Math.min(r, jointsOf(d).size());
        }
        return what == 0 ? r : hours;
    }

    int elsewhere(int drawing, int i) {
        if (!isD(drawing)) {
            return -1;
        }
        Map<Integer, Frac> ratios = new HashMap<>();
        List<Integer> codes = new ArrayList<>();
        for (int d = 0; d < drawings.size(); d++) {
            for (Joint j : jointsOf(d)) {
                if (d != drawing && j.floor >= 0 && (doubles(d) >> j.floor & 1) != 0) {
                    codes.add(100 * d + j.number);
                    ratios.put(100 * d + j.number, now(d).ratio(j));
                }
            }
        }
        codes.sort((p, q) -> {
            int c = ratios.get(q).compareTo(ratios.get(p));
            return c != 0 ? c : Integer.compare(p, q);
        });
        return i >= 0 && i < codes.size() ? codes.get(i) : -1;
    }

    boolean story(int p, int a, int b) {
        long bearing = papers.stream().filter(x -> x.a >= 0).count();
        if (p < 0 || p >= papers.size() || papers.get(p).a >= 0 || a < 0 || a > 10 || b < 0 || b > 10
                || bearing == 9) {
            return false;
        }
        papers.get(p).a = a;
        papers.get(p).b = b;
        return true;
    }

    long believed(int part, int k) {
        long a = 1, b = 1;
        for (Paper p : papers) {
            if (p.a >= 0 && p.counts(k)) {
                a *= p.a;
                b *= p.b;
            }
        }
        return a + b == 0 ? -1 : Frac.of(a, a + b).part(part);
    }

    int paper(int office, int day, int drawing, int hours, boolean stamped) {
        if (office < 0 || office > 5 || day < 0 || day > 99 || !isD(drawing) || hours < 0 || hours > 99
                || papers.size() == 60) {
            return -1;
        }
        Paper p = new Paper();
        p.office = office;
        p.day = day;
        p.drawing = drawing;
        p.hours = hours;
        p.stamped = stamped;
        p.told = time;
        papers.add(p);
        return papers.size() - 1;
    }

    boolean untell(int p) {
        if (p < 0 || p >= papers.size() || papers.get(p).untold != Integer.MAX_VALUE) {
            return false;
        }
        papers.get(p).untold = time;
        return true;
    }

    int later(int by) {
        if (by < 0 || by > 1000 || time + by > 100000) {
            return -1;
        }
        time += by;
        return time;
    }

    int spent(int office, int drawing, int day, int k) {
        if (office < 0 || office > 5 || !isD(drawing) || day < 0 || day > 99) {
            return -1;
        }
        return papers.stream().filter(p -> p.counts(k) && p.office == office && p.drawing == drawing && p.day <= day)
                .mapToInt(p -> p.hours).sum();
    }

    int saw(int drawing, int what, int k) {
        if (!isD(drawing) || what < 0 || what > 1 || beyond(drawing) == 0) {
            return -1;
        }
        for (int day = 0; day < 100; day++) {
            for (int office = 0; office < 6; office++) {
                if (spent(office, drawing, day, k) >= jointsOf(drawing).size()) {
                    return what == 0 ? day : office;
                }
            }
        }
        return -1;
    }

    int hollow(int k) {
        int n = 0;
        for (Paper p : papers) {
            if (!p.stamped || !p.counts(k)) {
                continue;
            }
            int before = 0;
            for (Paper q : papers) {
                boolean ahead = q.day < p.day || q.day == p.day && papers.indexOf(q) < papers.indexOf(p);
                if (ahead && q.counts(k) && q.office == p.office && q.drawing == p.drawing) {
                    before += q.hours;
                }
            }
            int still = jointsOf(p.drawing).size() - before;
            n += still > 0 && p.hours < still ? 1 : 0;
        }
        return n;
    }

    boolean setLive(int f, int people) {
        if (!isF(f) || people < 0 || people > 999) {
            return false;
        }
        live[f] = people;
        return true;
    }

    boolean setMove(int much) {
        if (much < 0 || much > 20) {
            return false;
        }
        move = much;
        return true;
    }

    int about(int what) {
        switch (what) {
            case 0: return floors.size();
            case 1: return drawings.size();
            case 2: return papers.size();
            case 3: return time;
            case 4: return tape.length();
            case 5: return move;
            default: return what >= 10 && isF(what - 10) ? live[what - 10] : -1;
        }
    }
}
