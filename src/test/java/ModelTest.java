import java.util.ArrayList;
import java.util.List;

/** Runs of calls, made by a seed, answered by the class and by the plain model alike. */
public final class ModelTest {
    private static long seed = 1;

    private static int any(int bound) {
        seed = seed * 6364136223846793005L + 1442695040888963407L;
        return (int) ((seed >>> 33) % bound);
    }

    private static int from(int least, int most) {
        return least + any(most - least + 1);
    }

    private static final String[] NAMES = {"u", "l", "w", "a", "b", "floors", "longname", "z", "y", "x", "hang", "r"};

    private static String blank() {
        return any(12) == 0 ? "\n  " : " ";
    }

    private static List<String> names(int n) {
        List<String> left = new ArrayList<>(List.of(NAMES));
        List<String> some = new ArrayList<>();
        for (int i = 0; i < n; i++) {
            some.add(left.remove(any(left.size())));
        }
        return some;
    }

    private static int number(int most) {
        int kind = any(6);
        return kind == 0 ? most : kind == 1 ? Math.min(most, 1 + any(9)) : kind == 2 ? from(1, most)
                : Math.min(most, from(20, 250));
    }

    static String house() {
        StringBuilder s = new StringBuilder();
        List<String> floors = names(any(10) == 0 ? 0 : from(1, 6));
        for (String f : floors) {
            s.append("floor ").append(f).append(blank()).append("weighs ").append(any(5) == 0 ? 0 : number(999))
                    .append(blank()).append("can ").append(number(9999)).append(" stands ")
                    .append(any(3) == 0 ? 0 : any(10)).append(any(3) == 0 ? " ;" : ";");
        }
        List<String> drawings = names(any(8) == 0 ? 0 : from(1, 4));
        for (String d : drawings) {
            s.append("drawing ").append(d).append(";");
            if (floors.isEmpty()) {
                continue;
            }
            for (String r : names(any(3) == 0 ? any(11) : from(1, 5))) {
                String rod = rod(r, floors);
                if (s.length() + rod.length() < 1500) {
                    s.append(rod);
                }
            }
        }
        return s.toString();
    }

    private static String rod(String name, List<String> floors) {
        StringBuilder s = new StringBuilder("rod " + name + blank() + "from ");
        int from = any(2) == 0 || floors.size() < 2 ? -1 : any(floors.size() - 1);
        s.append(from < 0 ? "roof" : floors.get(from)).append(blank()).append("by");
        int sure = from(from + 1, floors.size() - 1);
        for (int f = from + 1; f < floors.size(); f++) {
            if (f == sure || any(3) == 0) {
                s.append(blank()).append(floors.get(f));
            }
        }
        return s.append(" can ").append(number(9999)).append(";").toString();
    }

    /** The same house, but what things can is near to what they bear (of any drawing), so that little more is beyond. */
    private static String tight(String text) {
        Model m = new Model();
        m.tape.append(text);
        m.house();
        int spare = any(3) == 0 ? 12 : 4;
        int under = any(3);
        StringBuilder s = new StringBuilder();
        for (int f = 0; f < m.floors.size(); f++) {
            Model.Floor floor = m.floors.get(f);
            int most = 1;
            for (int d = 0; d < m.drawings.size(); d++) {
                for (Model.Joint j : m.jointsOf(d)) {
                    boolean hungFromIt = j.floor() < 0 && m.drawings.get(d).rods().get(j.rod()).from == f;
                    if (j.floor() == f || hungFromIt && any(2) == 0) {
                        most = Math.max(most, ceiling(m.now(d).bears(j)));
                    }
                }
            }
            s.append("floor ").append(floor.name()).append(" weighs ").append(floor.weighs()).append(" can ")
                    .append(near(most, under, spare)).append(" stands ").append(floor.stands()).append(";");
        }
        for (int d = 0; d < m.drawings.size(); d++) {
            s.append("drawing ").append(m.drawings.get(d).name()).append(";");
            List<Model.Rod> rods = m.drawings.get(d).rods();
            for (int r = 0; r < rods.size(); r++) {
                Model.Rod rod = rods.get(r);
                s.append("rod ").append(rod.name).append(" from ")
                        .append(rod.from < 0 ? "roof" : m.floors.get(rod.from).name()).append(" by");
                for (int f : rod.holds) {
                    s.append(" ").append(m.floors.get(f).name());
                }
                s.append(" can ").append(near(ceiling(m.now(d).rodBears(r)), under, spare)).append(";");
            }
        }
        return s.toString();
    }

    private static int near(int bears, int under, int spare) {
        return Math.max(1, Math.min(9999, bears - (any(4) == 0 ? under : 0) + any(spare)));
    }

    private static int ceiling(Model.Frac x) {
        return x.up().add(x.low()).subtract(java.math.BigInteger.ONE).divide(x.low()).intValueExact();
    }

    private static final String[] PIECES = {"floor", "rod", " ", ";", "0", "99999", "u", "roof", "can", "A", "\t",
        "1000", "abcdefghi", "drawing q;", "rod q from roof by u can 1;", "\n", "by", "7x", "", "\u00e9"};

    /** A text that is nearly a house. */
    private static String spoilt(String text) {
        if (any(2) == 0) {
            return otherWords(text);
        }
        StringBuilder s = new StringBuilder(text);
        for (int i = from(1, 2); i > 0; i--) {
            int at = any(s.length() + 1);
            int kind = any(4);
            if (kind == 0) {
                s.setLength(at);
            } else if (kind == 1 && at < s.length()) {
                s.deleteCharAt(at);
            } else if (kind == 2) {
                s.insert(at, PIECES[any(PIECES.length)]);
            } else {
                int end = Math.min(s.length(), at + any(12));
                s.replace(at, end, PIECES[any(PIECES.length)]);
            }
        }
        return s.length() > 1580 ? s.substring(0, 1580) : s.toString();
    }

    /** The same text with a word in the place of another one. */
    private static String otherWords(String text) {
        String[] words = text.replace(";", " ; ").trim().split("[ \n]+");
        words[any(words.length)] = words[any(words.length)];
        StringBuilder s = new StringBuilder();
        for (String w : words) {
            s.append(s.length() == 0 || w.equals(";") ? "" : " ").append(w);
        }
        return s.length() > 1580 ? s.substring(0, 1580) : s.toString();
    }

    private static void tell(HungFloors x, Model m, String text) {
        x.end(0);
        Check.tape(x, text);
        m.tape.setLength(0);
        m.tape.append(text);
        Check.due("about(4) behind " + text, x.about(4), m.about(4));
        Check.due("house() of " + text, x.house(), m.house());
        Check.due("fault(0) of " + text, x.fault(0), m.fault);
        Check.due("fault(1) of " + text, x.fault(1), m.place);
        for (int what = -1; what < 18; what++) {
            Check.due("about(" + what + ") behind " + text, x.about(what), m.about(what));
        }
    }

    private static void askAll(HungFloors x, Model m, String t) {
        for (int d = -1; d <= m.drawings.size(); d++) {
            int count = m.isD(d) ? m.jointsOf(d).size() : 0;
            Check.due(t + "joints " + d, x.joints(d), m.isD(d) ? count : -1);
            for (int j = -1; j <= count; j++) {
                for (int what = -1; what < 5; what++) {
                    Check.due(t + "joint " + d + j + what, x.joint(d, j, what), m.joint(d, j, what));
                }
                for (int part = -1; part < 3; part++) {
                    Check.due(t + "bears " + d + j + part, x.bears(d, j, part), m.bears(d, j, part));
                }
            }
            for (int f = -1; f <= m.floors.size(); f++) {
                for (int part = -1; part < 3; part++) {
                    Check.due(t + "weight " + d + f + part, x.weight(d, f, part), m.weight(d, f, part));
                }
            }
            Check.due(t + "beyond " + d, x.beyond(d), m.beyond(d));
            Check.due(t + "worst " + d, x.worst(d), m.worst(d));
            for (int what = -1; what < 3; what++) {
                Check.due(t + "fall " + d + what, x.fall(d, what), m.fall(d, what));
                Check.due(t + "floors " + d + what, x.floors(d, what), m.floorsBits(d, what));
            }
            int went = m.fall(d, 1);
            for (int i = -1; i <= went + 1; i++) {
                Check.due(t + "goes " + d + " " + i, x.goes(d, i), m.goes(d, i));
            }
            for (int to = -1; to <= m.drawings.size(); to++) {
                for (int what = -1; what < 5; what++) {
                    Check.due(t + "change " + d + to + what, x.change(d, to, what), m.change(d, to, what));
                }
            }
        }
        Check.due(t + "weak", x.weak(), m.weak());
        for (int what = -1; what < 3; what++) {
            Check.due(t + "rule " + what, x.rule(what), m.rule(what));
        }
    }

    private static void askDear(HungFloors x, Model m, String t) {
        int d = from(-1, m.drawings.size());
        int what = any(9) == 0 ? from(-1, 2) : any(2);
        Check.due(t + "mend " + d, x.mend(d, what), m.mend(d, what));
        int n = any(20) == 0 ? from(-1, 11) : any(m.floors.size() > 4 ? 4 : 7);
        int move = any(9) == 0 ? from(-1, 21) : any(21);
        Check.due(t + "odds " + d + " " + n + " " + move, x.odds(d, n, move, what), m.odds(d, n, move, what));
        for (int i = -1; i < 6; i++) {
            Check.due(t + "elsewhere " + d + " " + i, x.elsewhere(d, i), m.elsewhere(d, i));
        }
        if (any(4) == 0) {
            int f = from(-1, m.floors.size());
            Check.due(t + "most " + d + f, x.most(d, f), m.most(d, f));
        }
    }

    private static void load(HungFloors x, Model m, String t) {
        int f = from(-1, m.floors.size());
        int people = any(12) == 0 ? from(998, 1001) : any(5) == 0 ? from(-1, 999) : any(40);
        Check.due(t + "live", x.live(f, people), m.setLive(f, people));
        int much = any(3) == 0 ? from(-1, 21) : any(21);
        Check.due(t + "move", x.move(much), m.setMove(much));
    }

    private static void askPapers(HungFloors x, Model m, String t) {
        for (int i = 0; i < 90; i++) {
            int office = any(8) == 0 ? from(-1, 6) : any(3);
            int day = any(8) == 0 ? from(-1, 100) : any(12);
            int d = any(8) == 0 ? from(-1, m.drawings.size()) : any(Math.max(1, m.drawings.size()));
            int hours = any(8) == 0 ? from(-1, 100) : any(12);
            boolean stamped = any(2) == 0;
            Check.due(t + "paper", x.paper(office, day, d, hours, stamped), m.paper(office, day, d, hours, stamped));
            if (any(4) == 0) {
                int p = from(-1, m.papers.size());
                Check.due(t + "untell " + p, x.untell(p), m.untell(p));
            }
            if (any(4) == 0) {
                int p = from(-1, m.papers.size());
                int a = any(6) == 0 ? from(-1, 11) : from(1, 10);
                int b = any(6) == 0 ? from(-1, 11) : from(1, 10);
                Check.due(t + "story " + p, x.story(p, a, b), m.story(p, a, b));
            }
            if (any(3) == 0) {
                int by = any(20) == 0 ? from(-1, 1001) : any(3);
                Check.due(t + "later " + by, x.later(by), m.later(by));
            }
            int k = any(10) == 0 ? -1 : any(m.time + 3);
            Check.due(t + "spent", x.spent(office, d, day, k), m.spent(office, d, day, k));
            for (int what = -1; what < 3; what++) {
                Check.due(t + "saw", x.saw(d, what, k), m.saw(d, what, k));
                Check.due(t + "believed", x.believed(what, k), m.believed(what, k));
            }
            Check.due(t + "hollow", x.hollow(k), m.hollow(k));
            Check.due(t + "about(2)", x.about(2), m.about(2));
            Check.due(t + "about(3)", x.about(3), m.about(3));
        }
    }

    public static void main(String[] args) {
        int runs = args.length > 0 ? Integer.parseInt(args[0]) : 400;
        seed = args.length > 1 ? Long.parseLong(args[1]) : 20261118;
        for (int run = 0; run < runs; run++) {
            HungFloors x = new HungFloors();
            Model m = new Model();
            String text = any(3) == 0 ? house() : tight(house());
            for (int i = 0; i < 5; i++) {
                tell(x, m, spoilt(house()));
            }
            tell(x, m, text);
            String t = "run " + run + " " + text + " ";
            askAll(x, m, t);
            askDear(x, m, t);
            for (int i = 0; i < 3; i++) {
                load(x, m, t);
                load(x, m, t);
                askAll(x, m, t);
                askDear(x, m, t);
            }
            if (run % 4 == 0) {
                askPapers(x, m, t);
                tell(x, m, spoilt(text));
                askPapers(x, m, t);
            }
            if (run % 3 == 0) {
                // another house on the same object: nothing of the one before may be left
                String next = house();
                tell(x, m, next);
                load(x, m, t);
                askAll(x, m, "behind that, " + next + " ");
                askDear(x, m, "behind that, " + next + " ");
            }
        }
        Check.finish();
    }
}
