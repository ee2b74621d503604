import java.lang.reflect.Constructor;
import java.lang.reflect.Field;
import java.lang.reflect.Method;
import java.lang.reflect.Modifier;
import java.util.Arrays;
import java.util.NoSuchElementException;
import java.util.Set;
import java.util.TreeSet;

/** 'The public face' of the document: each member with its types, and what it may throw. */
public final class FaceTest {
    private static final String[] FACE = {
        "int feed(int, int, int, int, int)",
        "boolean end(int)",
        "int yard()",
        "int fault()",
        "int man(int, int) throws",
        "int cell(int, int, int) throws",
        "int row(int)",
        "int rowBy(int)",
        "int done(int)",
        "int period()",
        "int best()",
        "int bestAt(int)",
        "int running(int)",
        "int line(int)",
        "int cost(int, int) throws",
        "int more(int)",
        "int moreAt(int)",
        "int relief()",
        "int hooks(int)",
        "int hookAt(int)",
        "int fire(int, int, int, int)",
        "int fireAt(int, int, int)",
        "int out()",
        "int aims(int, int)",
        "int aimAt(int)",
        "int give(int)",
        "int enough(int, int)",
        "int plan()",
        "int night(int, int)",
        "int sentence()",
        "int said(int)",
        "boolean image(int)",
        "boolean restore(int)",
        "int count(int)",
    };

    public static void main(String[] args) {
        methods();
        constant();
        theClass();
        exceptionsOfItsOwnKind();
        Check.end();
    }

    private static void methods() {
        Set<String> due = new TreeSet<>(Arrays.asList(FACE));
        for (Method method : PailRow.class.getDeclaredMethods()) {
            if (!Modifier.isPublic(method.getModifiers())) {
                continue;
            }
            Check.due("in the face: " + shown(method), due.remove(shown(method)), true);
            Check.due("of an object: " + shown(method), Modifier.isStatic(method.getModifiers()), false);
        }
        Check.due("missing: " + due, due.size(), 0);
    }

    private static String shown(Method method) {
        StringBuilder shown = new StringBuilder(method.getReturnType().getName());
        shown.append(' ').append(method.getName()).append('(');
        for (int i = 0; i < method.getParameterCount(); i++) {
            shown.append(i == 0 ? "" : ", ").append(method.getParameterTypes()[i].getName());
        }
        shown.append(')');
        for (Class<?> thrown : method.getExceptionTypes()) {
            shown.append(thrown == NoSuchElementException.class ? " throws" : " throws another");
        }
        return shown.toString();
    }

    private static void constant() {
        int seen = 0;
        for (Field field : PailRow.class.getDeclaredFields()) {
            int modifiers = field.getModifiers();
            if (!Modifier.isPrivate(modifiers)) {
                seen++;
                boolean fine = field.getName().equals("NONE") && field.getType() == int.class
                        && Modifier.isPublic(modifiers) && Modifier.isStatic(modifiers) && Modifier.isFinal(modifiers);
                Check.due("the constant: " + field, fine, true);
            }
        }
        Check.due("constants", seen, 1);
        Check.due("NONE", PailRow.NONE, -1);
    }

    private static void theClass() {
        int modifiers = PailRow.class.getModifiers();
        Check.due("public and final", Modifier.isPublic(modifiers) && Modifier.isFinal(modifiers), true);
        Check.due("without a package", PailRow.class.getPackageName().isEmpty(), true);
        Check.due("no class above it", PailRow.class.getSuperclass() == Object.class, true);
        Check.due("no interface", PailRow.class.getInterfaces().length, 0);
        Constructor<?>[] made = PailRow.class.getDeclaredConstructors();
        Check.due("one constructor", made.length, 1);
        Check.due("it is public", Modifier.isPublic(made[0].getModifiers()), true);
        Check.due("it takes nothing", made[0].getParameterCount(), 0);
        Check.due("it throws nothing", made[0].getExceptionTypes().length, 0);
    }

    /** What is thrown is NoSuchElementException itself, no class below it. */
    private static void exceptionsOfItsOwnKind() {
        PailRow x = new PailRow();
        dueItself("man(0, 0)", () -> x.man(0, 0));
        dueItself("cell(0, 0, 0)", () -> x.cell(0, 0, 0));
        dueItself("cost(0, 0)", () -> x.cost(0, 0));
    }

    private static void dueItself(String what, Check.Call call) {
        Class<?> thrown = null;
        try {
            call.answer();
        } catch (RuntimeException e) {
            thrown = e.getClass();
        }
        Check.due(what + " throws NoSuchElementException: " + thrown, thrown == NoSuchElementException.class, true);
    }
}
