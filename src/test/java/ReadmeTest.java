import java.io.IOException;
import java.lang.reflect.Method;
import java.lang.reflect.Modifier;
import java.nio.file.Files;
import java.nio.file.Path;
import java.util.List;
import java.util.Objects;
import java.util.Set;
import java.util.TreeSet;
import java.util.regex.Matcher;
import java.util.regex.Pattern;

/** What README.md shows is so: its example, call by call, and the way in which tests are run. */
public final class ReadmeTest {
    private static final Path README = Path.of("README.md");
    private static final String FENCE = "```";
    private static final String FIRST_LINE = "KitMachine kit = new KitMachine();";
    private static final Pattern CALL =
        Pattern.compile("kit\\.(\\w+)\\(([^()]*)\\);(?: +// (-?\\d+|true|false)(?:: .+)?)?");
    private static final Pattern LISTED = Pattern.compile("([0-9A-F]{4}) ((?: [0-9A-F]{2})+)(?: .*)?");

    public static void main(String[] args) throws IOException, ReflectiveOperationException {
        List<String> readme = Files.readAllLines(README);
        KitMachine kit = new KitMachine();
        checkCalls(kit, block(readme, "java"));
        checkListing(kit, block(readme, "text"));
        checkWayToRun(block(readme, "sh"));
        Due.end();
    }

    /** The one block of a kind; a second one would go unlooked at. */
    private static List<String> block(List<String> readme, String kind) {
        int start = readme.indexOf(FENCE + kind) + 1;
        Due.yes("a block of " + kind, start > 0);
        Due.same("the last block of " + kind, readme.lastIndexOf(FENCE + kind) + 1, start);
        List<String> rest = readme.subList(start, readme.size());
        return rest.subList(0, Math.max(rest.indexOf(FENCE), 0));
    }

    private static void checkCalls(KitMachine kit, List<String> example)
            throws ReflectiveOperationException {
        Due.yes("the example begins with a new object", example.indexOf(FIRST_LINE) == 0);
        Set<String> shown = new TreeSet<>();
        for (String row : example.subList(1, example.size())) {
            Matcher call = CALL.matcher(row);
            Due.yes(row + " is a call", call.matches());
            if (call.matches()) {
                shown.add(call.group(1));
                checkCall(kit, row, call);
            }
        }
        Due.yes("every method is shown: " + shown, shown.equals(methodsOfFace()));
    }

    private static void checkCall(KitMachine kit, String row, Matcher call)
            throws ReflectiveOperationException {
        Method method = methodOfFace(call.group(1));
        Object answer = method.invoke(kit, arguments(method, call.group(2)));
        // Of reset() there is no answer, and none is to stand behind it.
        String told = answer == null ? null : answer.toString();
        Due.yes(row + " answered " + told, Objects.equals(told, call.group(3)));
    }

    private static Method methodOfFace(String name) throws NoSuchMethodException {
        for (Method method : KitMachine.class.getMethods()) {
            if (method.getName().equals(name) && isOfFace(method)) {
                return method;
            }
        }
        throw new NoSuchMethodException(name);
    }

    private static Set<String> methodsOfFace() {
        Set<String> names = new TreeSet<>();
        for (Method method : KitMachine.class.getMethods()) {
            if (isOfFace(method)) {
                names.add(method.getName());
            }
        }
        return names;
    }

    private static boolean isOfFace(Method method) {
        return method.getDeclaringClass() == KitMachine.class
            && Modifier.isPublic(method.getModifiers());
    }

    private static Object[] arguments(Method method, String written) {
        Class<?>[] types = method.getParameterTypes();
        String[] each = written.isEmpty() ? new String[0] : written.split(", ");
        Due.same(method.getName() + "(" + written + "): arguments", each.length, types.length);
        Object[] values = new Object[types.length];
        for (int i = 0; i < values.length; i++) {
            values[i] = types[i] == boolean.class ? (Object) isTrue(each[i]) : (Object) number(each[i]);
        }
        return values;
    }

    private static boolean isTrue(String written) {
        Due.yes(written + " is true or false", written.equals("true") || written.equals("false"));
        return written.equals("true");
    }

    /** As in Java: a number written with 0x may use the sign's bit, another may not. */
    private static int number(String written) {
        return written.startsWith("0x")
            ? Integer.parseUnsignedInt(written.substring(2), 16) : Integer.parseInt(written);
    }

    /** The listing has no gap, and is what the example's calls have put into memory. */
    private static void checkListing(KitMachine kit, List<String> listing) {
        int next = 64512;
        for (String row : listing) {
            Matcher listed = LISTED.matcher(row);
            Due.yes(row + " has an address and bytes", listed.matches());
            if (listed.matches()) {
                Due.same(row + ": its address", Integer.parseInt(listed.group(1), 16), next);
                for (String v : listed.group(2).trim().split(" ")) {
                    Due.same(row + ": peek(" + next + ")", kit.peek(next), Integer.parseInt(v, 16));
                    next++;
                }
            }
        }
        Due.yes("a program is listed", next > 64512);
    }

    /** It cannot be run here, for this test is run by it. */
    private static void checkWayToRun(List<String> commands) {
        Due.yes("the one command is .ci/run: " + commands, commands.equals(List.of(".ci/run")));
        Due.yes(".ci/run can be run", Files.isExecutable(Path.of(".ci/run")));
    }
}
