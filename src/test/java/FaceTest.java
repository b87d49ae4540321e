import java.lang.reflect.Constructor;
import java.lang.reflect.Field;
import java.lang.reflect.Method;
import java.lang.reflect.Modifier;
import java.util.Arrays;
import java.util.TreeSet;

/** The class has the document's face, and nothing beside it can be seen (LANGUAGE.md, rules 1 and 5). */
public final class FaceTest {
    private static final String[] FACE = {
        "void put(int, int) IndexOutOfBoundsException IllegalArgumentException",
        "void step(int, int) IndexOutOfBoundsException IllegalArgumentException",
        "void steps(int, int, int) IllegalArgumentException",
        "void row(int, long) IndexOutOfBoundsException",
        "long back(int) IllegalArgumentException",
        "int forward()",
        "void keep()",
        "int error(int) IllegalArgumentException",
        "void clear()",
        "int at(int, int) IndexOutOfBoundsException",
        "int order(int, int)",
        "long samples(int)",
        "int exact(int, int) IndexOutOfBoundsException",
        "int wave(int, int, int) IllegalArgumentException",
        "int look(int)",
    };

    private static String told(Method method) {
        StringBuilder text = new StringBuilder();
        text.append(method.getReturnType().getSimpleName()).append(' ').append(method.getName()).append('(');
        String between = "";
        for (Class<?> type : method.getParameterTypes()) {
            text.append(between).append(type.getSimpleName());
            between = ", ";
        }
        text.append(')');
        for (Class<?> type : method.getExceptionTypes()) {
            text.append(' ').append(type.getSimpleName());
        }
        return text.toString();
    }

    private static void methods() {
        TreeSet<String> seen = new TreeSet<>();
        TreeSet<String> names = new TreeSet<>();
        for (Method method : WaveBlocks.class.getDeclaredMethods()) {
            if (Modifier.isPrivate(method.getModifiers()) || method.isSynthetic()) {
                continue;
            }
            boolean plain = method.getModifiers() == Modifier.PUBLIC;
            seen.add((plain ? "" : Modifier.toString(method.getModifiers()) + ": ") + told(method));
            names.add(method.getName());
        }
        Checks.due("the methods", seen.toString(), new TreeSet<>(Arrays.asList(FACE)).toString());
        for (Method method : WaveBlocks.class.getDeclaredMethods()) {
            boolean hidden = Modifier.isPrivate(method.getModifiers());
            Checks.due("a private " + method.getName(), String.valueOf(hidden && names.contains(method.getName())), "false");
        }
    }

    private static void fields() {
        for (Field field : WaveBlocks.class.getDeclaredFields()) {
            int modifiers = field.getModifiers();
            boolean constant = field.getName().equals("NONE");
            Checks.due(field.getName() + " public", String.valueOf(Modifier.isPublic(modifiers)), String.valueOf(constant));
            Checks.due(field.getName() + " private", String.valueOf(Modifier.isPrivate(modifiers)), String.valueOf(!constant));
            if (Modifier.isStatic(modifiers)) {
                Checks.due(field.getName() + " final", String.valueOf(Modifier.isFinal(modifiers)), "true");
            }
        }
        Checks.due("NONE", WaveBlocks.NONE, -1);
    }

    private static void noneIsDeclared() {
        String declared = "there is none";
        for (Field field : WaveBlocks.class.getDeclaredFields()) {
            if (field.getName().equals("NONE")) {
                declared = field.toString();
            }
        }
        Checks.due("the declaration of NONE", declared, "public static final int WaveBlocks.NONE");
    }

    private static void nothingAbove() {
        Checks.due("the class above", WaveBlocks.class.getSuperclass().getName(), "java.lang.Object");
        Checks.due("interfaces", WaveBlocks.class.getInterfaces().length, 0);
        Checks.due("public classes inside", WaveBlocks.class.getClasses().length, 0);
    }

    public static void main(String[] args) {
        int modifiers = WaveBlocks.class.getModifiers();
        Checks.due("public and final", String.valueOf(Modifier.isPublic(modifiers) && Modifier.isFinal(modifiers)), "true");
        Constructor<?>[] constructors = WaveBlocks.class.getDeclaredConstructors();
        Checks.due("constructors", constructors.length, 1);
        Checks.due("the constructor", constructors[0].toString(), "public WaveBlocks()");
        Checks.due("what the constructor throws", constructors[0].getExceptionTypes().length, 0);
        methods();
        fields();
        noneIsDeclared();
        nothingAbove();
        Checks.end();
    }
}
