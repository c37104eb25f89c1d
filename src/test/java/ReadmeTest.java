import java.io.IOException;
import java.lang.reflect.Method;
import java.nio.file.Files;
import java.nio.file.Path;
import java.util.ArrayList;
import java.util.List;
import java.util.regex.Matcher;
import java.util.regex.Pattern;

/** What README.md tells of the class: its methods and their errors, its constants, and the answers of its example. */
public final class ReadmeTest {
    private static final Pattern FACE_METHOD = Pattern.compile("(?m)^ *public (int (\\w+)\\(.*\\));$");
    private static final Pattern CODE_ERROR = Pattern.compile("NO_SUCH|BAD_VALUE|BAD_TEXT|TOO_MANY|NOT_POSSIBLE");
    private static final Pattern EXAMPLE_CALL = Pattern.compile("(?m)^unit\\.(\\w+)\\((.*?)\\); *// ([-A-Z_0-9]+):");
    private static final Pattern CODE_ROW = Pattern.compile("(?m)^\\| `([A-Z_]+)` \\| (-\\d) \\|");
    private static final Pattern SETTING_ROW =
        Pattern.compile("(?m)^\\| `([A-Z]+)` \\| (\\d) \\| (\\d+) to (\\d+) \\| (\\d+) \\|");

    private ReadmeTest() {
    }

    public static void main(String[] args) throws IOException, ReflectiveOperationException {
        String readme = Files.readString(Path.of("README.md"));
        String document = Files.readString(Path.of("..", "shared", "DOC.md"));
        methods(readme, document);
        codes(readme);
        settings(readme);
        example(readme);
        Due.end();
    }

    private static void methods(String readme, String document) {
        Matcher method = FACE_METHOD.matcher(document);
        int methods = 0;
        while (method.find()) {
            methods++;
            String row = rowOf(method.group(1), readme);
            Due.is("README.md has " + method.group(1), row.isEmpty() ? 0 : 1, 1);
            String[] cells = row.split("\\|");
            Due.is(method.group(2) + " has its four columns", cells.length, 5);
            String errors = cells.length == 5 ? cells[4] : "";
            List<String> due = errorsIn(promiseOf(method.group(2), document));
            Due.same(method.group(2) + ": " + errors, errorsIn(errors).toString(), due.toString());
        }
        Due.is("methods of the face", methods, 19);
        Due.is("methods that README.md tells of", readme.split("\n\\| `int ", -1).length - 1, methods);
    }

    private static String rowOf(String method, String readme) {
        String head = "\n| `" + method + "` |";
        int at = readme.indexOf(head);
        return at < 0 ? "" : readme.substring(at + 1, readme.indexOf('\n', at + 1));
    }

    private static String promiseOf(String method, String document) {
        Matcher promise = Pattern.compile("(?ms)^## Promise \\d+: " + method + "$(.*?)^## ").matcher(document);
        return promise.find() ? promise.group(1) : "no promise";
    }

    private static List<String> errorsIn(String text) {
        List<String> errors = new ArrayList<>();
        Matcher error = CODE_ERROR.matcher(text);
        while (error.find()) {
            errors.add(error.group());
        }
        return errors;
    }

    private static void codes(String readme) throws ReflectiveOperationException {
        Matcher row = CODE_ROW.matcher(readme);
        int rows = 0;
        while (row.find()) {
            rows++;
            Due.is(row.group(1), Integer.parseInt(row.group(2)), constant(row.group(1)));
        }
        Due.is("codes", rows, 6);
    }

    private static void settings(String readme) throws ReflectiveOperationException {
        Matcher row = SETTING_ROW.matcher(readme);
        int rows = 0;
        while (row.find()) {
            rows++;
            int setting = Integer.parseInt(row.group(2));
            int least = Integer.parseInt(row.group(3));
            int most = Integer.parseInt(row.group(4));
            VotedCharge unit = new VotedCharge();
            Due.is(row.group(1), setting, constant(row.group(1)));
            Due.is(row.group(1) + " at first", unit.count(8 + setting), Integer.parseInt(row.group(5)));
            Due.is(row.group(1) + " below its range", unit.set(setting, least - 1), -2);
            Due.is(row.group(1) + " above its range", unit.set(setting, most + 1), -2);
            unit.set(setting, least);
            Due.is(row.group(1) + " at its least", unit.set(setting, most), least);
            Due.is(row.group(1) + " at its greatest", unit.count(8 + setting), most);
        }
        Due.is("settings", rows, 6);
    }

    private static void example(String readme) throws ReflectiveOperationException {
        String example = readme.substring(readme.indexOf("```java"), readme.indexOf("\n```\n"));
        Matcher call = EXAMPLE_CALL.matcher(example);
        VotedCharge unit = new VotedCharge();
        int calls = 0;
        while (call.find()) {
            calls++;
            String text = call.group(1) + "(" + call.group(2) + ")";
            Due.is(text, answer(unit, call.group(1), call.group(2)), number(call.group(3)));
        }
        Due.is("calls of the example", calls, example.split("\nunit\\.", -1).length - 1);
    }

    private static int answer(VotedCharge unit, String name, String arguments) throws ReflectiveOperationException {
        for (Method method : VotedCharge.class.getMethods()) {
            if (method.getName().equals(name)) {
                return (Integer) method.invoke(unit, values(method.getParameterTypes(), arguments));
            }
        }
        Due.is("there is a method " + name, 0, 1);
        return 0;
    }

    private static Object[] values(Class<?>[] types, String arguments) throws ReflectiveOperationException {
        String[] texts = arguments.isEmpty() ? new String[0] : arguments.split(", ");
        Due.is("arguments: " + arguments, texts.length, types.length);
        Object[] values = new Object[types.length];
        for (int i = 0; i < types.length; i++) {
            values[i] = value(types[i], texts[i]);
        }
        return values;
    }

    private static Object value(Class<?> type, String text) throws ReflectiveOperationException {
        if (type == boolean.class) {
            return Boolean.parseBoolean(text);
        }
        if (type == long.class) {
            return Long.decode(text.replaceAll("L$", ""));
        }
        return number(text.replace("VotedCharge.", ""));
    }

    private static int number(String text) throws ReflectiveOperationException {
        return text.matches("-?\\d+") ? Integer.parseInt(text) : constant(text);
    }

    private static int constant(String name) throws ReflectiveOperationException {
        return VotedCharge.class.getField(name).getInt(null);
    }
}
