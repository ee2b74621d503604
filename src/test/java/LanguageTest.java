import java.io.IOException;
import java.lang.reflect.Constructor;
import java.lang.reflect.Field;
import java.lang.reflect.Method;
import java.lang.reflect.Modifier;
import java.nio.file.Files;
import java.nio.file.Path;
import java.util.List;
import java.util.Set;
import java.util.TreeSet;

/** Some of the rules of LANGUAGE.md that can be seen from outside: 1, 4, 5, 6, 10 and 11. */
public final class LanguageTest {
    private static final Set<String> FACE = Set.of("feed", "end", "yard", "fault", "man", "cell", "row", "rowBy", "done",
            "period", "best", "bestAt", "running", "line", "cost", "more", "moreAt", "relief", "hooks", "hookAt", "fire",
            "fireAt", "out", "aims", "aimAt", "give", "enough", "plan", "night", "sentence", "said", "image", "restore",
            "count");
    private static final int MOST_LINES = 60;

    public static void main(String[] args) throws IOException {
        face();
        classesInside();
        source();
        Check.end();
    }

    private static void face() {
        Set<String> seen = new TreeSet<>();
        for (Method method : PailRow.class.getDeclaredMethods()) {
            if (Modifier.isPublic(method.getModifiers())) {
                seen.add(method.getName());
                continue;
            }
            boolean fine = method.isSynthetic() || Modifier.isPrivate(method.getModifiers());
            Check.due("private: " + method, fine && !FACE.contains(method.getName()), true);
        }
        Check.due("the face's methods", seen.equals(FACE), true);
        for (Field field : PailRow.class.getDeclaredFields()) {
            boolean constant = field.getName().equals("NONE") && Modifier.isPublic(field.getModifiers());
            Check.due("private: " + field, constant || Modifier.isPrivate(field.getModifiers()), true);
        }
        Constructor<?>[] made = PailRow.class.getDeclaredConstructors();
        Check.due("constructors", made.length, 1);
        Check.due("final", Modifier.isFinal(PailRow.class.getModifiers()), true);
        dueFields(PailRow.class);
    }

    private static void classesInside() {
        Class<?>[] inside = PailRow.class.getDeclaredClasses();
        Check.due("some twelve classes", inside.length + 1 <= 12, true);
        for (Class<?> one : inside) {
            int modifiers = one.getModifiers();
            boolean hidden = !Modifier.isPublic(modifiers) && !Modifier.isProtected(modifiers);
            Check.due("hidden and static: " + one, hidden && Modifier.isStatic(modifiers), true);
            dueFields(one);
            for (Method method : one.getDeclaredMethods()) {
                Check.due("named unlike the face: " + method, FACE.contains(method.getName()), false);
                Check.due("seven parameters: " + method, method.getParameterCount() <= 7, true);
            }
        }
    }

    private static void dueFields(Class<?> one) {
        int fields = 0;
        for (Field field : one.getDeclaredFields()) {
            if (Modifier.isStatic(field.getModifiers())) {
                Check.due("final: " + field, Modifier.isFinal(field.getModifiers()), true);
            } else {
                fields++;
            }
        }
        Check.due("some twenty fields: " + one + " has " + fields, fields <= 20, true);
    }

    private static void source() throws IOException {
        List<String> lines = Files.readAllLines(Path.of("src/main/java/PailRow.java"));
        String[] never = {"->", "::", "catch", "finally", "synchronized", "assert ", "static {", "hashCode", "toString",
            "instanceof", "Exact(", "ordinal()", "package ", "System.out", "currentTime", "nanoTime", "Random"};
        int start = -1;
        int methods = 0;
        for (int i = 0; i < lines.size(); i++) {
            String line = lines.get(i);
            for (String word : never) {
                Check.due("line " + (i + 1) + " holds " + word, line.contains(word), false);
            }
            if (line.startsWith("import ")) {
                Check.due(line, line.equals("import java.util.NoSuchElementException;"), true);
            }
            if (line.matches(" {4}( {4})?(public |private |static )*[A-Z]?\\w+(\\[])?( \\w+)?\\(.*\\).* \\{")) {
                methods++;
                start = i;
            }
            if (start >= 0 && line.matches(" {4}( {4})?}") && indent(line) == indent(lines.get(start))) {
                Check.due("lines of " + lines.get(start).strip(), i - start + 1 <= MOST_LINES, true);
                start = -1;
            }
        }
        Check.due("methods are found", methods > 100, true);
    }

    private static int indent(String line) {
        return line.length() - line.stripLeading().length();
    }
}
