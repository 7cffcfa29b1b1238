import java.io.IOException;
import java.nio.file.Files;
import java.nio.file.Path;
import java.util.Arrays;
import java.util.regex.Matcher;
import java.util.regex.Pattern;

/** No word of the document's Terms and promises is without a test that quotes it (with edges.of, a promise's by its number). */
public final class DocumentTest {
    private static final Check check = new Check();
    private static final int PROMISES = 48;

    public static void main(String[] args) throws IOException {
        String tests = edgeTests();
        String[] parts = parts();
        check.due("Terms and promises", parts.length, PROMISES + 1);
        for (int i = 0; i < parts.length; i++) {
            everyWordIsQuoted(i == 0 ? "Terms" : "promise " + i, parts[i], tests, i == 0 ? "\\d+" : "" + i);
        }
        check.end("DocumentTest");
    }

    private static String edgeTests() throws IOException {
        StringBuilder all = new StringBuilder();
        try (var files = Files.list(Path.of("src/test/java"))) {
            for (Path file : (Iterable<Path>) files::iterator) {
                if (file.toString().endsWith("EdgeTest.java")) {
                    all.append(Files.readString(file));
                }
            }
        }
        return all.toString().replaceAll("\"\\s*\\+\\s*\"", "");
    }

    /** Terms at 0, then each promise at its number; each in one line, without headings and the calls' own faces. */
    private static String[] parts() throws IOException {
        String text = Files.readString(Path.of("../shared/DOC.md"));
        String[] parts = text.substring(text.indexOf("## Terms"), text.indexOf("## Not promised")).split("(?m)^## Promise ");
        for (int i = 0; i < parts.length; i++) {
            check.holds("promise " + i + " comes in its order", i == 0 || parts[i].startsWith(i + ": "));
            String plain = parts[i].replaceAll("(?m)^(##|====|\\d+:) .*$", "").replaceAll("(?m)^THE LAND$", "")
                .replaceAll("(?m)^```.*$", "").replaceAll("(?m)^`[^`]*`:", "");
            parts[i] = plain.replaceAll("\\s+", " ").trim();
        }
        return parts;
    }

    private static void everyWordIsQuoted(String name, String part, String tests, String number) {
        boolean[] quoted = new boolean[part.length()];
        Matcher m = Pattern.compile("edges\\.of\\(" + number + ",\\s*\"([^\"]*)\"\\)").matcher(tests);
        while (m.find()) {
            String words = m.group(1);
            for (int at = part.indexOf(words); at >= 0; at = part.indexOf(words, at + 1)) {
                Arrays.fill(quoted, at, at + words.length(), true);
            }
        }
        StringBuilder rest = new StringBuilder();
        for (int i = 0; i < quoted.length; i++) {
            rest.append(quoted[i] ? '|' : part.charAt(i));
        }
        String left = rest.toString().replaceAll("\\|+", "|");
        check.holds("tests quote all of " + name + " but " + left, !left.matches(".*\\w.*"));
    }
}
