import java.lang.reflect.Constructor;
import java.lang.reflect.Field;
import java.lang.reflect.Method;
import java.lang.reflect.Modifier;
import java.util.Arrays;
import java.util.TreeSet;

/** The class has the document's face and nothing else that can be seen from outside. */
public final class FaceTests {
    private static final String[] FACE = {
        "int setOffset(int) IllegalArgumentException",
        "void setJitter(int, int) IllegalArgumentException",
        "int setDetector(int) IllegalArgumentException",
        "void setGains(int, int) IllegalArgumentException",
        "int setPhase(int) IllegalArgumentException",
        "void release()",
        "int run(int) IllegalArgumentException",
        "int ticks()",
        "int sent()",
        "int line()",
        "int level()",
        "int sender()",
        "int receiver()",
        "int error()",
        "int integral()",
        "int control()",
        "int received()",
        "int bit(int) IndexOutOfBoundsException",
        "int phase() IllegalStateException",
        "int repeated()",
        "int skipped()",
        "boolean isLocked()",
        "int wander()",
        "int alignment()",
        "int frames()",
        "int losses()",
        "int bestPhase()",
        "int cost(int) IllegalArgumentException",
    };

    private final Checks checks = new Checks();

    public static void main(String[] args) {
        FaceTests tests = new FaceTests();
        tests.classItself();
        tests.methods();
        tests.fields();
        tests.nestedClasses();
        tests.checks.finish("FaceTests");
    }

    private void classItself() {
        int modifiers = Phaselock.class.getModifiers();
        checks.due("the class is public", Modifier.isPublic(modifiers), true);
        checks.due("the class is final", Modifier.isFinal(modifiers), true);
        Constructor<?>[] constructors = Phaselock.class.getDeclaredConstructors();
        checks.due("constructors", constructors.length, 1);
        checks.dueText("constructor", constructors[0].toString(), "public Phaselock()");
    }

    private void methods() {
        TreeSet<String> seen = new TreeSet<>();
        TreeSet<String> seenNames = new TreeSet<>();
        for (Method method : Phaselock.class.getDeclaredMethods()) {
            if (!Modifier.isPrivate(method.getModifiers())) {
                checks.due(method.getName() + " is public", Modifier.isPublic(method.getModifiers()), true);
                seen.add(describe(method));
                seenNames.add(method.getName());
            }
        }
        checks.dueText("the face", seen.toString(), new TreeSet<>(Arrays.asList(FACE)).toString());
        noOtherOfSameName(Phaselock.class, seenNames);
        for (Class<?> nested : Phaselock.class.getDeclaredClasses()) {
            noOtherOfSameName(nested, seenNames);
        }
    }

    private void noOtherOfSameName(Class<?> holder, TreeSet<String> publicNames) {
        for (Method method : holder.getDeclaredMethods()) {
            if (!Modifier.isPublic(method.getModifiers())) {
                checks.due(method + " has a name of the face", publicNames.contains(method.getName()), false);
            }
        }
    }

    private static String describe(Method method) {
        StringBuilder text = new StringBuilder(method.getReturnType() + " " + method.getName() + "(");
        String between = "";
        for (Class<?> parameter : method.getParameterTypes()) {
            text.append(between).append(parameter);
            between = ", ";
        }
        text.append(")");
        for (Class<?> thrown : method.getExceptionTypes()) {
            text.append(" ").append(thrown.getSimpleName());
        }
        return text.toString();
    }

    private void fields() {
        for (Field field : Phaselock.class.getDeclaredFields()) {
            checks.due(field.getName() + " is private", Modifier.isPrivate(field.getModifiers()), true);
        }
    }

    private void nestedClasses() {
        for (Class<?> nested : Phaselock.class.getDeclaredClasses()) {
            int modifiers = nested.getModifiers();
            checks.due(nested.getName() + " is static", Modifier.isStatic(modifiers), true);
            checks.due(nested.getName() + " is public", Modifier.isPublic(modifiers), false);
        }
    }
}
