import java.lang.reflect.Method;
import java.nio.file.Files;
import java.nio.file.Path;
import java.util.HashMap;
import java.util.Map;
import java.util.Set;
import java.util.TreeSet;
import java.util.regex.Matcher;
import java.util.regex.Pattern;

/** What README.md shows is so: its house is told, and each call behind which an answer stands answers it. */
public final class ReadmeTest {
    private static final Pattern HOUSE = Pattern.compile("(?s)```text\n(.*?)```");
    private static final Pattern CALL = Pattern.compile("(?m)^x\\.(\\w+)\\((.*?)\\);\\s+// (\\S+)");

    private static Object[] arguments(Method method, String told) {
        Class<?>[] types = method.getParameterTypes();
        Object[] values = new Object[types.length];
        String[] words = told.split(", ");
        for (int i = 0; i < types.length; i++) {
            if (types[i] == boolean.class) {
                values[i] = Boolean.valueOf(words[i]);
            } else {
                values[i] = Integer.valueOf(words[i]);
            }
        }
        return values;
    }

    public static void main(String[] args) throws Exception {
        String readme = Files.readString(Path.of("README.md"));
        Map<String, Method> face = new HashMap<>();
        for (Method m : HungFloors.class.getMethods()) {
            if (m.getDeclaringClass() == HungFloors.class) {
                face.put(m.getName(), m);
            }
        }
        Matcher house = HOUSE.matcher(readme);
        HungFloors x = Check.of(house.find() ? house.group(1) : "no house in README.md");
        Set<String> shown = new TreeSet<>();
        Matcher call = CALL.matcher(readme);
        while (call.find()) {
            Method method = face.get(call.group(1));
            String got = method.invoke(x, arguments(method, call.group(2))).toString();
            Check.due("README.md: " + call.group() + ": " + got, got.equals(call.group(3)), true);
            shown.add(call.group(1));
        }
        Check.due("README.md shows all calls", shown.equals(face.keySet()), true);
        Check.finish();
    }
}
