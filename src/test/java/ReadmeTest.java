import java.lang.reflect.InvocationTargetException;
import java.lang.reflect.Method;
import java.nio.file.Files;
import java.nio.file.Path;
import java.util.Map;
import java.util.TreeMap;
import java.util.regex.Matcher;
import java.util.regex.Pattern;

/** README.md tells what the class does: the answers in its example, and its rows of calls. */
public final class ReadmeTest {
    private static final Check CHECK = new Check();
    private static final String FIRST = "SpoolFarm farm = new SpoolFarm();";
    private static final Pattern CALL =
        Pattern.compile("farm\\.(\\w+)\\((.*)\\); +// ('.'|throws \\w+|[\\w.]+)(: .*)?");
    private static final Pattern LINE = Pattern.compile(".*the line is \"(.*)\"");
    private static final Pattern ROW = Pattern.compile("\\| `(\\w+)\\((.*?)\\)` \\|.*\\| ?(.*?) ?\\|");

    public static void main(String[] args) throws Exception {
        String text = Files.readString(Path.of("README.md"));
        example(text.substring(text.indexOf("```java\n") + 8, text.indexOf("\n```\n")).split("\n"));
        rows(text.split("\n"));
        CHECK.end("ReadmeTest");
    }

    private static void example(String[] lines) throws Exception {
        CHECK.sameText("the example's first line", lines[0], FIRST);
        SpoolFarm farm = new SpoolFarm();
        for (int i = 1; i < lines.length; i++) {
            Matcher call = CALL.matcher(lines[i]);
            if (!call.matches()) {
                CHECK.fail("not a call and its answer: " + lines[i]);
                continue;
            }
            CHECK.sameText(lines[i], answer(farm, call.group(1), values(call.group(2))), call.group(3));
            Matcher line = LINE.matcher(lines[i]);
            if (line.matches()) {
                CHECK.sameText(lines[i], State.line(farm), line.group(1));
            }
        }
    }

    private static Object[] values(String arguments) {
        String[] written = arguments.isEmpty() ? new String[0] : arguments.split(", ");
        Object[] values = new Object[written.length];
        for (int i = 0; i < written.length; i++) {
            String value = written[i];
            if (value.startsWith("'")) {
                values[i] = value.charAt(1);
            } else if (value.equals("true") || value.equals("false")) {
                values[i] = value.equals("true");
            } else {
                values[i] = Integer.parseInt(value);
            }
        }
        return values;
    }

    private static String answer(SpoolFarm farm, String name, Object[] values) throws Exception {
        try {
            Object answer = methods().get(name).invoke(farm, values);
            return answer instanceof Character ? "'" + answer + "'" : "" + answer;
        } catch (InvocationTargetException thrown) {
            return "throws " + Check.name(thrown.getCause());
        }
    }

    private static Map<String, Method> methods() {
        Map<String, Method> methods = new TreeMap<>();
        for (Method method : SpoolFarm.class.getMethods()) {
            if (method.getDeclaringClass() == SpoolFarm.class) {
                methods.put(method.getName(), method);
            }
        }
        return methods;
    }

    /** Each call of the face has one row, with as many arguments as it takes and all that it throws, in its order. */
    private static void rows(String[] lines) {
        Map<String, Method> missing = methods();
        for (String line : lines) {
            Matcher row = ROW.matcher(line);
            if (row.matches()) {
                Method method = missing.remove(row.group(1));
                CHECK.same(line + " is a call, and once", method != null, true);
                if (method != null) {
                    CHECK.same(line + " takes", values(row.group(2).replaceAll("\\w+", "0")).length,
                        method.getParameterCount());
                    CHECK.sameText(line + " throws", row.group(3), thrown(method));
                }
            }
        }
        CHECK.sameText("calls without a row", missing.keySet().toString(), "[]");
    }

    private static String thrown(Method method) {
        StringBuilder names = new StringBuilder();
        for (Class<?> thrown : method.getExceptionTypes()) {
            names.append(names.length() > 0 ? ", " : "").append(thrown.getSimpleName().replace("Exception", ""));
        }
        return names.toString();
    }
}
