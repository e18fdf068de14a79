import java.io.IOException;
import java.lang.reflect.Method;
import java.lang.reflect.Modifier;
import java.net.URL;
import java.net.URLClassLoader;
import java.nio.file.Files;
import java.nio.file.Path;
import java.util.ArrayList;
import java.util.List;
import java.util.regex.Matcher;
import java.util.regex.Pattern;
import java.util.stream.Stream;
import javax.tools.ToolProvider;

/** What README.md shows is so: its examples are compiled and answer as they say. */
public final class ReadmeTest {
    private static final Pattern ANSWER = Pattern.compile("int (\\w+) = (.*);\\s*// (-?\\d+): .*");

    private ReadmeTest() {
    }

    public static void main(String[] args) throws Exception {
        String page = Files.readString(Path.of("README.md"));
        Matcher block = Pattern.compile("(?s)```java\n(.*?)```").matcher(page);
        int examples = 0;
        while (block.find()) {
            examples++;
            answersAsSaid("Example" + examples, block.group(1));
        }
        Checks.same("examples", "2", Integer.toString(examples));
        for (Method m : PoolTowels.class.getDeclaredMethods()) {
            if (Modifier.isPublic(m.getModifiers())) {
                tells(page, m.getName());
            }
        }
        try (Stream<Path> files = Files.list(Path.of("src/test/java"))) {
            for (Path file : files.toList()) {
                String name = file.getFileName().toString();
                if (name.endsWith("Test.java")) {
                    tells(page, name.substring(0, name.length() - ".java".length()));
                }
            }
        }
        Checks.end();
    }

    private static void tells(String page, String name) {
        boolean isThere = Pattern.compile("(?m)^\\|[^|]*`" + name + "`").matcher(page).find();
        Checks.same("README.md has a row for " + name, "true", Boolean.toString(isThere));
    }

    private static void answersAsSaid(String name, String code) throws Exception {
        List<String> names = new ArrayList<>();
        List<String> due = new ArrayList<>();
        for (String line : code.split("\n")) {
            Matcher m = ANSWER.matcher(line);
            if (m.matches()) {
                names.add(m.group(1));
                due.add(m.group(3));
            }
        }
        Checks.same(name + " shows answers", "true", Boolean.toString(names.size() >= 3));
        String answers = "return new int[] {" + String.join(", ", names) + "};";
        String source = "public class " + name + " { public static int[] go() {\n" + code + answers + "\n} }";
        int[] got = run(name, source);
        for (int i = 0; i < got.length; i++) {
            Checks.same(name + ": " + names.get(i), due.get(i), Integer.toString(got[i]));
        }
    }

    private static int[] run(String name, String source) throws Exception {
        // The examples may use Feeding, so it has to be compiled with this test.
        Path classes = Path.of(Feeding.class.getProtectionDomain().getCodeSource().getLocation().toURI());
        Path made = Files.createTempDirectory("readme");
        try {
            Path file = Files.writeString(made.resolve(name + ".java"), source);
            int code = ToolProvider.getSystemJavaCompiler().run(null, null, null,
                "-cp", classes.toString(), "-d", made.toString(), file.toString());
            Checks.same(name + " compiles", "0", Integer.toString(code));
            return code == 0 ? call(name, made, classes) : new int[0];
        } finally {
            clear(made);
        }
    }

    private static int[] call(String name, Path made, Path classes) throws Exception {
        // One loader for all, since Feeding is seen by its own package alone.
        URL[] places = {made.toUri().toURL(), classes.toUri().toURL()};
        try (URLClassLoader loader = new URLClassLoader(places, ClassLoader.getPlatformClassLoader())) {
            return (int[]) loader.loadClass(name).getMethod("go").invoke(null);
        }
    }

    private static void clear(Path made) throws IOException {
        try (Stream<Path> files = Files.list(made)) {
            for (Path file : files.toList()) {
                Files.delete(file);
            }
        }
        Files.delete(made);
    }
}
