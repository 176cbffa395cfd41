import java.io.IOException;
import java.lang.reflect.Field;
import java.lang.reflect.Method;
import java.lang.reflect.Modifier;
import java.nio.file.Files;
import java.nio.file.Path;
import java.util.ArrayList;
import java.util.Arrays;
import java.util.HashMap;
import java.util.List;
import java.util.Map;
import java.util.regex.Matcher;
import java.util.regex.Pattern;

/** What README.md tells of the class: its example, the calls and their error codes, the values of the constants. */
public final class ReadmeTest {
    private static final Pattern EXAMPLE_CALL = Pattern.compile("chain\\.(\\w+)\\((.*?)\\); +// (-?\\d+).*");
    private static final Pattern ROW_OF_CALL = Pattern.compile("\\| `(\\w+)\\(([^)]*)\\)` \\|.*\\|([^|]*)\\|");
    private static final Pattern ROW_OF_CONSTANT = Pattern.compile("\\| `([A-Z_]+)` \\| (-\\d+) \\|.*");
    private static final Pattern CODE = Pattern.compile("`([A-Z_]+)`|-100 minus the fault");

    /** The error codes of the document, in the order in which they are checked; the other calls have none. */
    private static final String[][] ERRORS = {
        {"add", "BAD_VALUE TOO_MANY"}, {"take", "NO_SUCH"}, {"setPins", "NO_SUCH BAD_VALUE"}, {"breakChip", "NO_SUCH"},
        {"clock", "BAD_VALUE"}, {"move", "BAD_VALUE"}, {"load", "NO_SUCH BAD_VALUE"}, {"exchange", "NO_SUCH BAD_VALUE"},
        {"append", "BAD_VALUE TOO_MANY"}, {"run", "-100 minus the fault"}, {"restore", "NO_SUCH"},
        {"chip", "NO_SUCH BAD_VALUE"}, {"count", "BAD_VALUE"}, {"found", "BAD_VALUE"}, {"distance", "BAD_VALUE"},
        {"peek", "BAD_VALUE"}, {"ifExchanged", "NO_SUCH BAD_VALUE"}};

    public static void main(String[] args) throws IOException, ReflectiveOperationException {
        List<String> page = Files.readAllLines(Path.of("README.md"));
        Due due = new Due("ReadmeTest");
        due.promise("the example");
        example(due, page);
        due.promise("the calls");
        calls(due, page);
        due.promise("the constants");
        constants(due, page);
        due.end();
    }

    /** Each line of the example is called; the number that its comment begins with is due. */
    private static void example(Due due, List<String> page) throws ReflectiveOperationException {
        int at = page.indexOf("ScanChain chain = new ScanChain();");
        due.same("the example has a beginning", at >= 0 ? 1 : 0, 1);
        ScanChain chain = new ScanChain();
        int called = 0;
        for (int line = at + 1; line < page.size() && !page.get(line).equals("```"); line++) {
            Matcher call = EXAMPLE_CALL.matcher(page.get(line));
            if (!call.matches()) {
                due.same("a line of the example", page.get(line), "a call and what it answers");
                continue;
            }
            due.same(page.get(line), answer(chain, call.group(1), call.group(2)), Integer.parseInt(call.group(3)));
            called++;
        }
        due.same("the example has calls", called > 0 ? 1 : 0, 1);
    }

    private static int answer(ScanChain chain, String name, String written) throws ReflectiveOperationException {
        List<Object> arguments = new ArrayList<>();
        for (String argument : written.isEmpty() ? new String[0] : written.split(", ")) {
            arguments.add(argument.startsWith("'") ? (int) argument.charAt(1) : Integer.parseInt(argument));
        }
        Class<?>[] types = new Class<?>[arguments.size()];
        Arrays.fill(types, int.class);
        return (Integer) ScanChain.class.getMethod(name, types).invoke(chain, arguments.toArray());
    }

    /** Each method has one row, with its number of arguments and its error codes. */
    private static void calls(Due due, List<String> page) {
        Map<String, String> rows = new HashMap<>();
        for (String line : page) {
            Matcher row = ROW_OF_CALL.matcher(line);
            if (row.matches()) {
                int arguments = row.group(2).isEmpty() ? 0 : row.group(2).split(", ").length;
                String told = arguments + " arguments, errors:" + codes(row.group(3));
                due.same("an earlier row of " + row.group(1), "" + rows.put(row.group(1), told), "null");
            }
        }
        int methods = 0;
        for (Method method : ScanChain.class.getDeclaredMethods()) {
            if (Modifier.isPublic(method.getModifiers())) {
                String want = method.getParameterCount() + " arguments, errors:" + errorsOf(method.getName());
                due.same("the row of " + method.getName(), "" + rows.get(method.getName()), want);
                methods++;
            }
        }
        due.same("rows of calls", rows.size(), methods);
    }

    private static String codes(String cell) {
        StringBuilder found = new StringBuilder();
        Matcher code = CODE.matcher(cell);
        while (code.find()) {
            found.append(' ').append(code.group(1) != null ? code.group(1) : code.group());
        }
        return found.toString();
    }

    private static String errorsOf(String method) {
        for (String[] errors : ERRORS) {
            if (errors[0].equals(method)) {
                return " " + errors[1];
            }
        }
        return "";
    }

    private static void constants(Due due, List<String> page) throws ReflectiveOperationException {
        Map<String, String> values = new HashMap<>();
        for (String line : page) {
            Matcher row = ROW_OF_CONSTANT.matcher(line);
            if (row.matches()) {
                values.put(row.group(1), row.group(2));
            }
        }
        for (Field field : ScanChain.class.getFields()) {
            due.same(field.getName(), "" + values.get(field.getName()), "" + field.getInt(null));
        }
        due.same("rows of constants", values.size(), ScanChain.class.getFields().length);
    }
}
