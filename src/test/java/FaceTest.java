import java.lang.reflect.Constructor;
import java.lang.reflect.Field;
import java.lang.reflect.Method;
import java.lang.reflect.Modifier;
import java.nio.file.Files;
import java.nio.file.Path;
import java.util.Set;
import java.util.TreeSet;

/** The class's face is the document's, word for word, and nothing else can be seen of it. */
public final class FaceTest {
    private static final int MOST_FIELDS = 20;

    private FaceTest() {
    }

    public static void main(String[] args) throws Exception {
        Checks.same("the face", documented().toString(), compiled().toString());
        Checks.same("NONE", "-1", Integer.toString(PoolTowels.NONE));
        Checks.same("public and final", "17", Integer.toString(PoolTowels.class.getModifiers()));
        hidesTheRest();
        Checks.end();
    }

    private static Set<String> documented() throws Exception {
        String doc = Files.readString(Path.of("../shared/DOC.md"));
        Set<String> all = new TreeSet<>();
        for (String line : doc.substring(doc.indexOf("```java"), doc.indexOf("## Terms")).split("\n")) {
            String s = line.trim();
            if (s.startsWith("public ") && s.endsWith(";") && s.contains("(")) {
                String thrown = s.contains("throws") ? s.substring(s.indexOf("throws"), s.length() - 1) : "";
                String head = s.substring(0, s.indexOf('('));
                int many = s.contains("()") ? 0 : s.substring(0, s.indexOf(')')).split(",").length;
                all.add(head + "/" + many + " " + thrown);
            }
        }
        return all;
    }

    private static String thrown(Class<?>[] types) {
        StringBuilder s = new StringBuilder();
        for (Class<?> t : types) {
            s.append(s.length() == 0 ? "throws " : ", ").append(t.getSimpleName());
        }
        return s.toString();
    }

    private static Set<String> compiled() {
        Set<String> all = new TreeSet<>();
        for (Constructor<?> c : PoolTowels.class.getConstructors()) {
            all.add("public PoolTowels/" + c.getParameterCount() + " " + thrown(c.getExceptionTypes()));
        }
        for (Method m : PoolTowels.class.getDeclaredMethods()) {
            if (Modifier.isPublic(m.getModifiers())) {
                String head = "public " + m.getReturnType() + " " + m.getName();
                all.add(head + "/" + m.getParameterCount() + " " + thrown(m.getExceptionTypes()));
            }
        }
        return all;
    }

    private static void hidesTheRest() {
        Set<String> faceNames = new TreeSet<>();
        for (Method m : PoolTowels.class.getDeclaredMethods()) {
            int how = m.getModifiers();
            if (Modifier.isPublic(how)) {
                faceNames.add(m.getName());
            } else {
                Checks.same(m.getName() + " is private", "true", Boolean.toString(Modifier.isPrivate(how)));
            }
        }
        for (Field f : PoolTowels.class.getDeclaredFields()) {
            boolean isRight = Modifier.isPrivate(f.getModifiers()) || f.getName().equals("NONE");
            Checks.same(f.getName() + " is private", "true", Boolean.toString(isRight));
        }
        countFields(PoolTowels.class);
        for (Class<?> inside : PoolTowels.class.getDeclaredClasses()) {
            countFields(inside);
            for (Method m : inside.getDeclaredMethods()) {
                boolean clash = faceNames.contains(m.getName());
                Checks.same(inside.getSimpleName() + "." + m.getName() + " bears a name of the face", "false",
                    Boolean.toString(clash));
            }
        }
    }

    private static void countFields(Class<?> type) {
        int many = 0;
        for (Field f : type.getDeclaredFields()) {
            many += Modifier.isStatic(f.getModifiers()) ? 0 : 1;
        }
        Checks.same(type.getSimpleName() + " has few fields", "true", Boolean.toString(many <= MOST_FIELDS));
    }
}
