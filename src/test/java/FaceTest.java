import java.lang.reflect.Constructor;
import java.lang.reflect.Field;
import java.lang.reflect.Method;
import java.lang.reflect.Modifier;
import java.util.Arrays;
import java.util.List;
import java.util.TreeSet;

/** The face is that of the document, and nothing else of the class can be seen. */
public final class FaceTest {
    private static final List<String> METHODS = List.of(
        "boolean line(int, int, boolean)", "boolean pins(int, int)", "boolean put(int, int)",
        "boolean receive(int)", "int peek(int)", "int port(int, int)", "int register(int)",
        "int run(int)", "int sent()", "int sentByte(int)", "int serial(int)", "void reset()");

    public static void main(String[] args) {
        int shape = KitMachine.class.getModifiers();
        Due.yes("public", Modifier.isPublic(shape));
        Due.yes("final", Modifier.isFinal(shape));
        Due.same("NONE", KitMachine.NONE, -1);
        checkMethods();
        checkFields();
        checkConstructors();
        checkClassesInside();
        Due.end();
    }

    private static void checkMethods() {
        TreeSet<String> seen = new TreeSet<>();
        for (Method method : KitMachine.class.getDeclaredMethods()) {
            if (Modifier.isPrivate(method.getModifiers())) {
                for (String due : METHODS) {
                    Due.no(method.getName(), due.contains(" " + method.getName() + "("));
                }
                continue;
            }
            Due.yes(method + " public", Modifier.isPublic(method.getModifiers()));
            String parameters = Arrays.toString(method.getParameterTypes());
            seen.add(method.getReturnType() + " " + method.getName()
                + "(" + parameters.substring(1, parameters.length() - 1) + ")");
        }
        Due.yes("methods " + seen, seen.equals(new TreeSet<>(METHODS)));
    }

    private static void checkFields() {
        for (Field field : KitMachine.class.getDeclaredFields()) {
            int shape = field.getModifiers();
            Due.yes(field.toString(), Modifier.isPrivate(shape) || field.getName().equals("NONE"));
            Due.yes(field.toString(), !Modifier.isStatic(shape) || Modifier.isFinal(shape));
        }
    }

    private static void checkConstructors() {
        Constructor<?>[] all = KitMachine.class.getDeclaredConstructors();
        Due.same("constructors", all.length, 1);
        Due.yes("public constructor", Modifier.isPublic(all[0].getModifiers()));
        Due.same("parameters", all[0].getParameterCount(), 0);
    }

    private static void checkClassesInside() {
        for (Class<?> inside : KitMachine.class.getDeclaredClasses()) {
            int shape = inside.getModifiers();
            Due.yes(inside + " static", Modifier.isStatic(shape));
            Due.no(inside + " seen", Modifier.isPublic(shape) || Modifier.isProtected(shape));
        }
    }
}
