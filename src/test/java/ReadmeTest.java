import java.lang.reflect.Method;
import java.lang.reflect.Modifier;
import java.nio.file.Files;
import java.nio.file.Path;
import java.util.HashMap;
import java.util.List;
import java.util.Map;
import java.util.TreeSet;
import java.util.regex.Matcher;
import java.util.regex.Pattern;

/** README.md tells the truth: its calls answer what stands behind them, and all that must stand in it does. */
public final class ReadmeTest {
    private static final Check check = new Check();

    public static void main(String[] args) throws Exception {
        String text = Files.readString(Path.of("README.md"));
        Map<String, Method> methods = methods();
        example(text, methods);
        everyCallIsNamed(text, methods);
        refusalsAreTold(text);
        unrefusedAreTold(text, methods);
        commandIsTold(text);
        testsAreTold(text);
        check.end("ReadmeTest");
    }

    private static Map<String, Method> methods() {
        Map<String, Method> found = new HashMap<>();
        for (Method method : EachRoadOnce.class.getDeclaredMethods()) {
            if (Modifier.isPublic(method.getModifiers())) {
                found.put(method.getName(), method);
            }
        }
        return found;
    }

    private static void example(String text, Map<String, Method> methods) throws Exception {
        int start = text.indexOf("```java");
        String code = text.substring(start, text.indexOf("```\n", start));
        EachRoadOnce x = new EachRoadOnce();
        Matcher m = Pattern.compile("x\\.(\\w+)\\(([^)]*)\\);\\s*// (-?\\d+)\\b").matcher(code);
        int calls = 0;
        while (m.find()) {
            calls++;
            Method method = methods.get(m.group(1));
            check.holds("README.md calls " + m.group(1), method != null);
            if (method != null) {
                Object got = method.invoke(x, given(method, m.group(2)));
                check.due("README.md: " + m.group(1) + "(" + m.group(2) + ")", ((Number) got).longValue(), Long.parseLong(m.group(3)));
            }
        }
        check.due("calls that README.md tells the answer of", calls, code.split("x\\.", -1).length - 1);
        check.holds("README.md has an example", calls > 20);
    }

    private static Object[] given(Method method, String words) {
        String[] parts = words.isEmpty() ? new String[0] : words.split(", ");
        Object[] given = new Object[parts.length];
        for (int i = 0; i < parts.length; i++) {
            Class<?> type = method.getParameterTypes()[i];
            if (type == boolean.class) {
                given[i] = Boolean.parseBoolean(parts[i]);
            } else if (type == long.class) {
                given[i] = Long.decode(parts[i]);
            } else {
                given[i] = Integer.decode(parts[i]);
            }
        }
        return given;
    }

    private static void everyCallIsNamed(String text, Map<String, Method> methods) {
        int from = text.indexOf("### What a call answers");
        String part = text.substring(from, text.indexOf("### What a refused call answers"));
        TreeSet<String> named = new TreeSet<>();
        Matcher m = Pattern.compile("(?m)^\\| (`.*?`) \\|").matcher(part);
        while (m.find()) {
            for (String name : m.group(1).replace("`", "").split(" ")) {
                check.holds("README.md names " + name + " once", named.add(name));
            }
        }
        check.holds("README.md names the document's calls: " + named, named.equals(new TreeSet<>(methods.keySet())));
    }

    /** Each row of the table, by a call that is refused so: the answer, and where it is counted. */
    private static void refusalsAreTold(String text) {
        String[] names = {"BAD", "OTHER", "NOTHING", "STUCK", "FULL"};
        for (int i = 0; i < names.length; i++) {
            Matcher m = Pattern.compile("\\| (-\\d) \\| " + names[i] + " \\| [^|]* \\| `status\\((\\d+)\\)` \\|").matcher(text);
            check.holds("README.md tells " + names[i], m.find());
            EachRoadOnce x = refusing();
            int counter = Integer.parseInt(m.group(2));
            int ahead = x.status(counter);
            check.due("a call refused as " + names[i], refusedAs(i, x), Integer.parseInt(m.group(1)));
            check.due("how many were refused as " + names[i], x.status(counter), ahead + 1);
        }
        check.holds("README.md says that nothing changes",
            text.contains("Nothing changes by a refused call but how many there were"));
    }

    /** PEOPLE there is no room beside, a ROW in SHELF 0, NOTHING in SHELF 1, and nothing kept. */
    private static EachRoadOnce refusing() {
        EachRoadOnce x = new EachRoadOnce();
        for (int one = 0; one < 6; one++) {
            x.one(one);
        }
        x.row(0, 0, 0);
        return x;
    }

    private static int refusedAs(int name, EachRoadOnce x) {
        switch (name) {
            case 0: return x.one(8);
            case 1: return x.next(0, 0);
            case 2: return x.next(1, 0);
            case 3: return x.back();
            default: return x.one(0);
        }
    }

    private static void unrefusedAreTold(String text, Map<String, Method> methods) {
        int end = text.indexOf("refuse nothing.");
        check.holds("README.md tells which calls refuse nothing", end > 0);
        String list = text.substring(text.lastIndexOf(". `", end), end);
        TreeSet<String> named = new TreeSet<>();
        Matcher m = Pattern.compile("`(\\w+)`").matcher(list);
        while (m.find()) {
            named.add(m.group(1));
        }
        check.holds("these refuse nothing: " + named,
            named.equals(new TreeSet<>(List.of("element", "holds", "wipe", "year", "fast", "seed", "image", "status"))));
        check.holds("they are calls", methods.keySet().containsAll(named));
    }

    private static void commandIsTold(String text) {
        check.holds("README.md tells the command", text.contains("\n    sh .ci/run\n"));
        check.holds(".ci/run can be run", Files.isExecutable(Path.of(".ci/run")));
    }

    private static void testsAreTold(String text) throws Exception {
        try (var files = Files.list(Path.of("src/test/java"))) {
            for (Path file : (Iterable<Path>) files::iterator) {
                String name = file.getFileName().toString().replace(".java", "");
                if (name.endsWith("Test")) {
                    check.holds("README.md tells of " + name, text.contains("`" + name + "`"));
                }
            }
        }
    }
}
