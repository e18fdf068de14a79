import java.nio.file.Files;
import java.nio.file.Path;
import java.util.regex.Matcher;
import java.util.regex.Pattern;

/** What can be seen from the source alone of the rules in LANGUAGE.md. */
public final class RulesTest {
    private static final int LONGEST_METHOD = 60;
    private static final int MOST_CLASSES = 12;
    private static final int MOST_PARAMETERS = 7;

    private RulesTest() {
    }

    public static void main(String[] args) throws Exception {
        String source = Files.readString(Path.of("src/main/java/PoolTowels.java"));
        String bare = source.replaceAll("(?s)/\\*.*?\\*/", "").replaceAll("//[^\n]*", "");
        holdsNone(bare, "\\bcatch\\b|\\btry\\b|\\bfinally\\b", "no exception is caught");
        holdsNone(bare, "->|::", "no lambda, no method reference");
        holdsNone(bare, "Exact\\b", "no Math.*Exact");
        holdsNone(bare, "\\bsynchronized\\b|\\bassert\\b|\\binstanceof\\b", "words that are not used");
        holdsNone(bare, "\"\\s*\\+|\\+\\s*\"", "no joining of texts");
        holdsNone(bare, "\\bwhile \\(true\\)|for \\(;;\\)", "no loop without an end");
        holdsNone(bare, "\\bstatic (?!final|int |boolean )", "no static state");
        holdsNone(bare, "[^\\x00-\\x7f]|\t", "plain signs alone");
        int throwing = found(bare, "\\bthrow\\b");
        Checks.same("every throw is a new exception of the document", Integer.toString(throwing), Integer.toString(
            found(bare, "throw new (IllegalArgument|IllegalState|NoSuchElement)Exception\\(\"[ a-z]+\"\\);")));
        Checks.same("one import", "1", Integer.toString(found(bare, "\\bimport\\b")));
        int classes = found(bare, "\\b(class|enum|interface|record) [A-Z]");
        Checks.same("classes are few", "true", Boolean.toString(classes <= MOST_CLASSES));
        looksAtLines(bare.split("\n"));
        Checks.end();
    }

    private static int found(String text, String what) {
        Matcher m = Pattern.compile(what).matcher(text);
        int many = 0;
        while (m.find()) {
            many++;
        }
        return many;
    }

    private static void holdsNone(String text, String what, String rule) {
        Checks.same(rule, "0", Integer.toString(found(text, what)));
    }

    private static void looksAtLines(String[] lines) {
        Pattern head = Pattern.compile("^(    |        )\\w[^=;]*\\w+\\(([^)]*)\\?*");
        for (int i = 0; i < lines.length; i++) {
            String s = lines[i];
            Matcher m = head.matcher(s);
            boolean begins = m.find() && (s.endsWith("{") || i + 1 < lines.length && lines[i + 1].contains(" throws "));
            if (begins) {
                String indent = m.group(1);
                int end = i;
                while (end < lines.length && !lines[end].equals(indent + "}")) {
                    end++;
                }
                Checks.same("short: " + s.trim(), "true", Boolean.toString(end - i <= LONGEST_METHOD));
                int parameters = m.group(2).isBlank() ? 0 : m.group(2).split(",").length;
                Checks.same("few parameters: " + s.trim(), "true", Boolean.toString(parameters <= MOST_PARAMETERS));
            }
        }
    }
}
