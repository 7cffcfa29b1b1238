import java.lang.reflect.Constructor;
import java.lang.reflect.Field;
import java.lang.reflect.Method;
import java.lang.reflect.Modifier;
import java.nio.file.Files;
import java.nio.file.Path;
import java.util.ArrayList;
import java.util.List;
import java.util.TreeSet;
import java.util.regex.Matcher;
import java.util.regex.Pattern;

/** The public face as the document has it, and nothing more; what can be seen of LANGUAGE.md's rules without a compiler. */
public final class FaceTest {
    private static final Check check = new Check();
    private static final String SOURCE = "src/main/java/EachRoadOnce.java";
    private static final String DOCUMENT = "../shared/DOC.md";

    public static void main(String[] args) throws Exception {
        faceIsTheDocuments();
        nothingElseIsOpen();
        fieldsAreFew();
        wordsAreAllowed();
        wildNumbers();
        check.end("FaceTest");
    }

    private static void faceIsTheDocuments() throws Exception {
        String text = Files.readString(Path.of(DOCUMENT));
        String face = text.substring(text.indexOf("```java"), text.indexOf("```\n", text.indexOf("```java")));
        TreeSet<String> wanted = new TreeSet<>();
        Matcher m = Pattern.compile("public (int|long) (\\w+)\\(([^)]*)\\);").matcher(face);
        while (m.find()) {
            wanted.add(m.group(1) + " " + m.group(2) + "(" + m.group(3).replaceAll(" \\w+(,|$)", "$1") + ")");
        }
        check.due("methods in the document", wanted.size(), 47);
        TreeSet<String> there = new TreeSet<>();
        for (Method method : EachRoadOnce.class.getDeclaredMethods()) {
            if (!Modifier.isPrivate(method.getModifiers())) {
                List<String> types = new ArrayList<>();
                for (Class<?> type : method.getParameterTypes()) {
                    types.add(type.getName());
                }
                there.add(method.getReturnType().getName() + " " + method.getName() + "(" + String.join(", ", types) + ")");
                check.holds(method + " is public and not static",
                    Modifier.isPublic(method.getModifiers()) && !Modifier.isStatic(method.getModifiers()));
            }
        }
        check.holds("the methods are the document's: " + wanted + " " + there, wanted.equals(there));
        check.due("NONE", EachRoadOnce.NONE, -1);
    }

    private static void nothingElseIsOpen() {
        check.holds("the class is public and final", (EachRoadOnce.class.getModifiers() & (Modifier.PUBLIC | Modifier.FINAL))
            == (Modifier.PUBLIC | Modifier.FINAL));
        for (Field field : EachRoadOnce.class.getDeclaredFields()) {
            check.holds(field + " is private", field.getName().equals("NONE") || Modifier.isPrivate(field.getModifiers()));
        }
        Constructor<?>[] constructors = EachRoadOnce.class.getDeclaredConstructors();
        check.due("constructors", constructors.length, 1);
        check.due("its parameters", constructors[0].getParameterCount(), 0);
        check.holds("it is public", Modifier.isPublic(constructors[0].getModifiers()));
        TreeSet<String> open = new TreeSet<>();
        for (Method method : EachRoadOnce.class.getMethods()) {
            open.add(method.getName());
        }
        List<Class<?>> all = new ArrayList<>(List.of(EachRoadOnce.class.getDeclaredClasses()));
        all.add(EachRoadOnce.class);
        for (Class<?> inside : all) {
            for (Method method : inside.getDeclaredMethods()) {
                check.holds(method + " has a name of its own", inside == EachRoadOnce.class && Modifier.isPublic(method.getModifiers())
                    || !open.contains(method.getName()));
                check.holds(method + " has at most seven parameters", method.getParameterCount() <= 7);
            }
        }
    }

    private static void fieldsAreFew() {
        Class<?>[] inside = EachRoadOnce.class.getDeclaredClasses();
        check.holds("at most twelve classes", inside.length <= 12);
        for (Class<?> c : inside) {
            check.holds(c + " is static", Modifier.isStatic(c.getModifiers()));
            int fields = 0;
            for (Field field : c.getDeclaredFields()) {
                if (Modifier.isStatic(field.getModifiers())) {
                    check.holds(field + " is final", Modifier.isFinal(field.getModifiers()));
                } else {
                    fields++;
                }
            }
            check.holds(c + " has at most twenty fields", fields <= 20);
        }
    }

    private static void wordsAreAllowed() throws Exception {
        String text = Files.readString(Path.of(SOURCE));
        String code = text.replaceAll("(?s)/\\*.*?\\*/", "").replaceAll("//[^\n]*", "").replaceAll("\"[^\"\n]*\"", "\"\"");
        String[] words = {"package", "throw", "throws", "try", "catch", "finally", "synchronized", "assert", "volatile", "transient",
            "native", "->", "::", "Exact", "System\\.out", "random", "Thread", "hashCode", "toString", "protected"};
        for (String word : words) {
            String pattern = word.matches("\\w+") ? "\\b" + word + "\\b" : word;
            check.holds("no " + word, !Pattern.compile(pattern).matcher(code).find());
        }
        Matcher imports = Pattern.compile("import ([\\w.*]+);").matcher(code);
        while (imports.find()) {
            check.holds("import " + imports.group(1), imports.group(1).equals("java.util.Arrays"));
        }
        methodsAreShort(code);
    }

    private static void methodsAreShort(String code) {
        int start = 0;
        int line = 0;
        String opener = "";
        for (String row : code.split("\n", -1)) {
            line++;
            if (row.matches(" {4,8}(?! )[^=]*\\) \\{")) {
                start = line;
                opener = row.trim();
            } else if (row.matches(" {4,8}\\}") && start > 0) {
                check.holds(opener + " is short", line - start <= 60);
                start = 0;
            }
        }
    }

    /** Every call with numbers from one end to the other, on an object with nothing in it and on one with much. */
    private static void wildNumbers() throws Exception {
        int[] wild = {Integer.MIN_VALUE, -2, -1, 0, 1, 2, 3, 7, 8, 16, 41, 61, 100, 251, Integer.MAX_VALUE};
        for (Method method : EachRoadOnce.class.getDeclaredMethods()) {
            if (!Modifier.isPublic(method.getModifiers())) {
                continue;
            }
            for (int k = 0; k < 400; k++) {
                EachRoadOnce x = k % 3 == 0 ? new EachRoadOnce() : Check.some();
                Object[] given = new Object[method.getParameterCount()];
                int rest = k * 7919;
                for (int i = 0; i < given.length; i++) {
                    int v = wild[Math.floorMod(rest, wild.length)];
                    rest = rest / wild.length + k * 31;
                    Class<?> type = method.getParameterTypes()[i];
                    given[i] = type == boolean.class ? (Object) (v % 2 == 0) : type == long.class ? (Object) (long) v : (Object) v;
                }
                method.invoke(x, given);
            }
        }
        check.holds("no call threw", true);
    }
}
