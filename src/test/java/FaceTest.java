import java.lang.reflect.Constructor;
import java.lang.reflect.Field;
import java.lang.reflect.Method;
import java.lang.reflect.Modifier;
import java.util.Set;
import java.util.TreeSet;

/** The public face: just the document's constants, constructor and methods, and no name used twice. */
public final class FaceTest {
    public static void main(String[] args) {
        answers();
        outcomes();
        members();
        noPrivateMethodBearsAPublicName();
        Due.finish();
    }

    private static void answers() {
        Due.by("The public face", "public static final int REFUSED = -1; public static final int FULL = -2;");
        Due.due("REFUSED", ThrowScenario.REFUSED, -1);
        Due.due("FULL", ThrowScenario.FULL, -2);
    }

    private static void outcomes() {
        Due.by("Terms", "The constants: `ENDED = 0`, `UNCAUGHT = 1`, `DISPATCHED = 2`, `HANDLER_THREW = 3`, `EXITED = 4`, `TIRED = 5`,"
            + " `NONE = 1000000000000L`: Outcomes.");
        Due.due("ENDED", ThrowScenario.ENDED, 0);
        Due.due("UNCAUGHT", ThrowScenario.UNCAUGHT, 1);
        Due.due("DISPATCHED", ThrowScenario.DISPATCHED, 2);
        Due.due("HANDLER_THREW", ThrowScenario.HANDLER_THREW, 3);
        Due.due("EXITED", ThrowScenario.EXITED, 4);
        Due.due("TIRED", ThrowScenario.TIRED, 5);
        Due.due("NONE", ThrowScenario.NONE, 1000000000000L);
    }

    private static void members() {
        Due.by("The public face", "public final class ThrowScenario {");
        Set<String> face = new TreeSet<>();
        for (Field field : ThrowScenario.class.getDeclaredFields()) {
            if (!Modifier.isPrivate(field.getModifiers())) {
                face.add(field.toString());
            }
        }
        for (Constructor<?> constructor : ThrowScenario.class.getDeclaredConstructors()) {
            face.add(constructor.toString());
        }
        for (Method method : ThrowScenario.class.getDeclaredMethods()) {
            if (!Modifier.isPrivate(method.getModifiers())) {
                face.add(method.toString());
            }
        }
        String[] ints = {"REFUSED", "FULL", "ENDED", "UNCAUGHT", "DISPATCHED", "HANDLER_THREW", "EXITED", "TIRED"};
        Set<String> due = new TreeSet<>();
        for (String name : ints) {
            due.add("public static final int ThrowScenario." + name);
        }
        due.add("public static final long ThrowScenario.NONE");
        due.add("public ThrowScenario(int)");
        String[] answersInt = {"declare(int)", "node(int,int,int,int)", "define(int,int)", "dispatch(int)", "run(int,int,int)",
            "report(int)", "count(int)"};
        for (String method : answersInt) {
            due.add("public int ThrowScenario." + method);
        }
        String[] answersLong = {"variable(int)", "value()", "logged(int)", "failure(int,int)", "second(int,int)"};
        for (String method : answersLong) {
            due.add("public long ThrowScenario." + method);
        }
        Due.dueText("the face", face.toString(), due.toString());
        Due.due("the class is public and final", ThrowScenario.class.getModifiers(), Modifier.PUBLIC | Modifier.FINAL);
    }

    private static void noPrivateMethodBearsAPublicName() {
        Set<String> names = new TreeSet<>();
        for (Method method : ThrowScenario.class.getMethods()) {
            if (method.getDeclaringClass() == ThrowScenario.class) {
                names.add(method.getName());
            }
        }
        Due.due("public names", names.size(), 12);
        for (Method method : ThrowScenario.class.getDeclaredMethods()) {
            if (!Modifier.isPublic(method.getModifiers())) {
                Due.due("private " + method.getName() + " bears a public name", names.contains(method.getName()) ? 1 : 0, 0);
            }
        }
        for (Class<?> inside : ThrowScenario.class.getDeclaredClasses()) {
            Due.due(inside.getName() + " is static", Modifier.isStatic(inside.getModifiers()) ? 1 : 0, 1);
            for (Method method : inside.getDeclaredMethods()) {
                boolean bears = Modifier.isPrivate(method.getModifiers()) && names.contains(method.getName());
                Due.due(inside.getName() + "." + method.getName() + " bears a public name", bears ? 1 : 0, 0);
            }
        }
    }
}
