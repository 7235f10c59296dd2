import java.util.ArrayList;
import java.util.List;
import java.util.function.Supplier;

/**
 * What can be seen of an object by asking: so that a test can tell that a call has changed nothing at all.
 * It asks some 300 times, and takes the tape as the house at the end: the object is of no use behind it.
 */
final class Seen {
    /** A call, answered as a number (a boolean counts 1 or 0). */
    interface Call {
        long on(HungFloors x);
    }

    private final HungFloors x;
    private final List<String> rows = new ArrayList<>();

    private Seen(HungFloors x) {
        this.x = x;
    }

    static long bit(boolean answer) {
        return answer ? 1 : 0;
    }

    /** The call answers as due, and whatever is asked behind it is answered as without it. */
    static void leavesAll(String name, Supplier<HungFloors> start, Call call, long want) {
        HungFloors with = start.get();
        HungFloors without = start.get();
        Check.due(name, call.on(with), want);
        Check.due(name + " leaves fault(0)", with.fault(0), without.fault(0));
        Check.due(name + " leaves fault(1)", with.fault(1), without.fault(1));
        alike(name, with, without);
    }

    /** Two objects show the same; but for the fault of the latest house(), which may be another one. */
    static void alike(String name, HungFloors one, HungFloors other) {
        List<String> left = rowsOf(one);
        List<String> right = rowsOf(other);
        int i = 0;
        while (i < left.size() && left.get(i).equals(right.get(i))) {
            i++;
        }
        String shown = i < left.size() ? left.get(i) + " for " + right.get(i) : "";
        Check.due(name + " leaves all as it was " + shown, i, left.size());
    }

    private static List<String> rowsOf(HungFloors x) {
        Seen seen = new Seen(x);
        for (int what = 0; what < 16; what++) {
            seen.row("about " + what, x.about(what));
        }
        seen.row("weak", x.weak());
        for (int d = 0; d < 4; d++) {
            seen.drawing(d);
        }
        seen.papers();
        seen.tape();
        return seen.rows;
    }

    private void row(String label, long answer) {
        rows.add(label + " = " + answer);
    }

    private void drawing(int d) {
        row("joints " + d, x.joints(d));
        row("beyond " + d, x.beyond(d));
        row("worst " + d, x.worst(d));
        row("goes " + d, x.goes(d, 0));
        for (int what = 0; what < 2; what++) {
            row("fall " + d + " " + what, x.fall(d, what));
            row("floors " + d + " " + what, x.floors(d, what));
            row("mend " + d + " " + what, x.mend(d, what));
            row("odds " + d + " " + what, x.odds(d, 2, 5, what));
            row("elsewhere " + d + " " + what, x.elsewhere(d, what));
        }
        for (int f = 0; f < 6; f++) {
            row("weight " + d + " " + f, x.weight(d, f, 0));
            row("most " + d + " " + f, x.most(d, f));
        }
        for (int j = 0; j < 4; j++) {
            row("joint " + d + " " + j, x.joint(d, j, 2));
            row("bears " + d + " " + j, x.bears(d, j, 0));
            row("by " + d + " " + j, x.bears(d, j, 1));
        }
        for (int what = 0; what < 4; what++) {
            row("change " + d + " " + what, x.change(d, (d + 1) % 4, what));
        }
    }

    private void papers() {
        for (int what = 0; what < 2; what++) {
            row("rule " + what, x.rule(what));
            row("believed once " + what, x.believed(what, 0));
            row("believed " + what, x.believed(what, Integer.MAX_VALUE));
        }
        row("hollow once", x.hollow(0));
        row("hollow", x.hollow(Integer.MAX_VALUE));
        for (int d = 0; d < 4; d++) {
            row("saw " + d, x.saw(d, 0, Integer.MAX_VALUE));
            row("who " + d, x.saw(d, 1, Integer.MAX_VALUE));
            for (int office = 0; office < 6; office++) {
                row("spent " + office + " " + d, x.spent(office, d, 99, Integer.MAX_VALUE));
            }
        }
        row("later", x.later(0));
    }

    private void tape() {
        row("house", x.house());
        row("fault 0", x.fault(0));
        row("fault 1", x.fault(1));
        row("floors of the tape", x.about(0));
        row("joints of the tape", x.joints(0));
        row("left on the tape", x.about(4));
    }
}
