import java.io.IOException;
import java.lang.reflect.Method;
import java.lang.reflect.Modifier;
import java.nio.file.Files;
import java.nio.file.Path;
import java.util.ArrayList;
import java.util.List;
import java.util.regex.Matcher;
import java.util.regex.Pattern;

/** README.md tells how to use the class: what it tells holds. */
public final class ReadmeTest {
    private static final Pattern CALL = Pattern.compile("(?m)^x\\.(\\w+)\\((.*?)\\); *// (-?\\w+):");
    private static final String[] CONSTANTS = {"UNKNOWN", "OUTSIDE", "STATE", "FULL"};

    public static void main(String[] args) throws IOException, ReflectiveOperationException {
        String readme = Files.readString(Path.of("README.md"));
        exampleHolds(readme);
        everyCallIsTold(readme);
        everyRefusalIsTold(readme);
        Due.end("ReadmeTest");
    }

    private static void exampleHolds(String readme) throws ReflectiveOperationException {
        Matcher text = Pattern.compile("String court = \"(.*?)\";").matcher(readme);
        Due.due("courts in the example", text.find() ? 1 : 0, 1);
        DryLoaf x = Due.page(text.group(1));
        Matcher call = CALL.matcher(readme);
        int calls = 0;
        while (call.find()) {
            Method method = methodOf(call.group(1));
            Object[] given = arguments(method, call.group(2));
            Number got = (Number) method.invoke(x, given);
            Due.due(call.group(), got.longValue(), number(call.group(3)));
            calls++;
        }
        Due.due("calls in the example", calls, 18);
    }

    private static Method methodOf(String name) {
        for (Method method : DryLoaf.class.getDeclaredMethods()) {
            if (method.getName().equals(name)) {
                return method;
            }
        }
        throw new IllegalArgumentException("no call " + name);
    }

    private static Object[] arguments(Method method, String written) {
        List<Object> given = new ArrayList<>();
        for (Class<?> type : method.getParameterTypes()) {
            String one = written.split(", ")[given.size()];
            given.add(type == boolean.class ? (Object) Boolean.valueOf(one) : (Object) Integer.valueOf(one));
        }
        return given.toArray();
    }

    private static long number(String written) throws ReflectiveOperationException {
        return Character.isUpperCase(written.charAt(0)) ? DryLoaf.class.getField(written).getInt(null)
            : Long.parseLong(written);
    }

    private static void everyCallIsTold(String readme) {
        for (Method method : DryLoaf.class.getDeclaredMethods()) {
            if (Modifier.isPublic(method.getModifiers())) {
                String commas = "[^,()|]+, ".repeat(Math.max(0, method.getParameterCount() - 1));
                String last = method.getParameterCount() == 0 ? "" : "[^,()|]+";
                String row = "(?m)^\\| `" + method.getName() + "\\(" + commas + last + "\\)` \\|";
                Due.due("rows of " + method.getName(), Pattern.compile(row).matcher(readme).results().count(), 1);
            }
        }
    }

    private static void everyRefusalIsTold(String readme) throws ReflectiveOperationException {
        for (String name : CONSTANTS) {
            Due.due(name + " stands with its number", readme.contains("| `" + name + "` | " + number(name) + " |") ? 1 : 0, 1);
        }
        Due.due("NONE stands with its number", readme.contains("`NONE` (" + number("NONE") + ")") ? 1 : 0, 1);
    }
}
