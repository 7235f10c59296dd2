import java.lang.management.ManagementFactory;
import java.lang.reflect.Constructor;
import java.lang.reflect.Field;
import java.lang.reflect.Method;
import java.lang.reflect.Modifier;
import java.nio.file.Files;
import java.nio.file.Path;
import java.util.ArrayList;
import java.util.List;
import java.util.Set;
import java.util.TreeSet;
import java.util.regex.Matcher;
import java.util.regex.Pattern;

/** The face of the class, what of Java it uses (as far as a look at the text tells), and what its calls make. */
public final class LanguageTest {
    private static final String FACE = """
            int feed(int,int,int,int,int)
            int end(int)
            int house()
            int fault(int)
            boolean live(int,int)
            boolean move(int)
            int joints(int)
            int joint(int,int,int)
            long bears(int,int,int)
            long weight(int,int,int)
            int beyond(int)
            int worst(int)
            int fall(int,int)
            int goes(int,int)
            int change(int,int,int)
            int weak()
            int floors(int,int)
            int mend(int,int)
            long odds(int,int,int,int)
            int most(int,int)
            int rule(int)
            int elsewhere(int,int)
            boolean story(int,int,int)
            long believed(int,int)
            int paper(int,int,int,int,boolean)
            boolean untell(int)
            int later(int)
            int spent(int,int,int,int)
            int saw(int,int,int)
            int hollow(int)
            int about(int)
            """;

    private static void none(String what, int count) {
        Check.due(what, count, 0);
    }

    private static void face() {
        Set<String> methods = new TreeSet<>();
        Set<String> names = new TreeSet<>();
        for (Method m : HungFloors.class.getDeclaredMethods()) {
            if (!Modifier.isPrivate(m.getModifiers())) {
                List<String> types = new ArrayList<>();
                for (Class<?> type : m.getParameterTypes()) {
                    types.add(type.getSimpleName());
                }
                methods.add(m.getReturnType() + " " + m.getName() + "(" + String.join(",", types) + ")");
                names.add(m.getName());
            }
        }
        Check.due("the methods " + methods, methods.equals(new TreeSet<>(FACE.lines().toList())), true);
        int visible = 0;
        for (Field f : HungFloors.class.getDeclaredFields()) {
            visible += Modifier.isPrivate(f.getModifiers()) ? 0 : 1;
        }
        Check.due("visible fields", visible, 1);
        Constructor<?>[] constructors = HungFloors.class.getConstructors();
        Check.due("constructors", constructors.length, 1);
        Check.due("final", Modifier.isFinal(HungFloors.class.getModifiers()), true);
        classesInside(names);
    }

    private static void classesInside(Set<String> publicNames) {
        Class<?>[] inside = HungFloors.class.getDeclaredClasses();
        Check.due("at most twelve classes", inside.length <= 11, true);
        for (Class<?> c : inside) {
            Check.due(c + " is static", Modifier.isStatic(c.getModifiers()), true);
            none(c + " is not public", c.getModifiers() & (Modifier.PUBLIC | Modifier.PROTECTED));
            int fields = 0;
            for (Field f : c.getDeclaredFields()) {
                fields += Modifier.isStatic(f.getModifiers()) ? 0 : 1;
            }
            Check.due(c + " has few fields", fields <= 20, true);
            for (Method m : c.getDeclaredMethods()) {
                Check.due(m + " has a name of its own", publicNames.contains(m.getName()), false);
                Check.due(m + " takes at most seven", m.getParameterCount() <= 7, true);
            }
        }
    }

    private static void text() throws Exception {
        String source = Files.readString(Path.of("src/main/java/HungFloors.java"));
        String code = source.replaceAll("(?s)/\\*.*?\\*/", "").replaceAll("//[^\n]*", "");
        String[] words = {"throw", "throws", "try", "catch", "synchronized", "assert", "package", "->", "::",
            "Exact", "import", "hashCode", "System\\.out", "null", "goto", "native", "volatile"};
        for (String w : words) {
            String pattern = w.matches("[A-Za-z]+") ? "\\b" + w + "\\b" : w;
            Matcher m = Pattern.compile(pattern).matcher(code);
            Check.due("the word " + w, m.find(), false);
        }
        for (char c : source.toCharArray()) {
            if (c > 126) {
                Check.due("a sign above 126", c, 0);
            }
        }
        longMethods(code);
    }

    private static void longMethods(String code) {
        String[] lines = code.split("\n", -1);
        int start = -1;
        for (int i = 0; i < lines.length; i++) {
            boolean head = lines[i].matches("\\s{4,8}(?!return|else|if|for|while|switch)[a-zA-Z].*\\) \\{");
            if (head) {
                start = i;
            } else if (start >= 0 && lines[i].equals(lines[start].replaceAll("\\S.*", "") + "}")) {
                Check.due("lines of the method at line " + start, i - start <= 60, true);
                start = -1;
            }
        }
    }

    /** Calls use rows made by the constructor again: they make nothing themselves. */
    private static void room() {
        String text = "floor a weighs 9 can 20 stands 1;floor b weighs 9 can 20 stands 2;floor c weighs 9 can 20 stands 3;"
                + "drawing d;rod r from roof by a b can 30;rod s from a by c can 20;rod t from b by c can 9;"
                + "drawing e;rod r from roof by a c can 30;rod s from a by b can 20;";
        HungFloors x = Check.of(text);
        com.sun.management.ThreadMXBean threads =
                (com.sun.management.ThreadMXBean) ManagementFactory.getThreadMXBean();
        long self = Thread.currentThread().getId();
        askEverything(x);
        long idle = threads.getThreadAllocatedBytes(self);
        idle = threads.getThreadAllocatedBytes(self) - idle;
        long before = threads.getThreadAllocatedBytes(self);
        for (int i = 0; i < 20; i++) {
            askEverything(x);
        }
        long made = threads.getThreadAllocatedBytes(self) - before - idle;
        Check.due("bytes made by calls: " + made, made < 1000, true);
        long start = threads.getThreadAllocatedBytes(self);
        HungFloors y = new HungFloors();
        long size = threads.getThreadAllocatedBytes(self) - start - idle;
        Check.due("bytes made by the constructor: " + size, size < 60000, true);
        Check.due("and it answers", y.about(0), 0);
    }

    private static void askEverything(HungFloors x) {
        x.feed(1, 2, 3, 4, 5);
        x.house();
        x.end(0);
        x.live(0, 3);
        x.move(4);
        x.joints(0);
        x.joint(0, 1, 3);
        x.bears(0, 1, 0);
        x.weight(0, 1, 1);
        x.beyond(0);
        x.worst(0);
        x.fall(0, 0);
        x.goes(0, 0);
        x.change(0, 1, 0);
        x.weak();
        x.floors(0, 1);
        x.mend(0, 0);
        x.odds(0, 10, 5, 0);
        x.most(0, 1);
        x.rule(0);
        x.elsewhere(0, 0);
        x.paper(0, 1, 0, 3, true);
        x.story(0, 1, 2);
        x.believed(0, 0);
        x.untell(0);
        x.later(1);
        x.spent(0, 0, 9, 9);
        x.saw(0, 0, 9);
        x.hollow(9);
        x.about(3);
    }

    public static void main(String[] args) throws Exception {
        face();
        text();
        room();
        Check.finish();
    }
}
