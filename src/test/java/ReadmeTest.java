import java.io.IOException;
import java.lang.reflect.InvocationTargetException;
import java.lang.reflect.Method;
import java.nio.file.Files;
import java.nio.file.Path;
import java.util.HashSet;
import java.util.Set;
import java.util.regex.Matcher;
import java.util.regex.Pattern;

/** README.md tells calls with their answers in its blocks of Java: each of them is made, in order. */
public final class ReadmeTest {
    private static final Path README = Path.of("README.md");
    private static final Pattern BLOCK = Pattern.compile("```java\\n(.*?)```", Pattern.DOTALL);
    private static final Pattern CALL =
        Pattern.compile("house\\.(\\w+)\\((.*?)\\); *// (?:= ([^: ]+)|throws (\\w+))(?:: .+)?");
    private static final String NEW_HOUSE = "ShoeHouse house = new ShoeHouse();";

    private ReadmeTest() {
    }

    public static void main(String[] args) throws IOException {
        Set<String> told = new HashSet<>();
        Matcher block = BLOCK.matcher(Files.readString(README));
        int blocks = 0;
        while (block.find()) {
            makeCalls(block.group(1), told);
            blocks++;
        }
        Expect.same("blocks of calls", blocks, 4);
        Expect.same("calls of each part are told", told.contains("spin") && told.contains("deal") && told.contains("stop")
            && told.contains("confirm") && told.contains("bar"), true);
        Expect.end(ReadmeTest.class);
    }

    private static void makeCalls(String block, Set<String> told) {
        String[] lines = block.split("\n");
        Expect.same("the first line of a block", lines[0], NEW_HOUSE);
        ShoeHouse house = new ShoeHouse();
        for (int i = 1; i < lines.length; i++) {
            Matcher call = CALL.matcher(lines[i]);
            boolean isCall = call.matches();
            Expect.same("a call with its answer: " + lines[i], isCall, true);
            if (isCall) {
                String due = call.group(3) != null ? call.group(3) : "throws " + call.group(4);
                Expect.same(lines[i], answer(house, call.group(1), call.group(2)), due);
                told.add(call.group(1));
            }
        }
    }

    private static String answer(ShoeHouse house, String name, String arguments) {
        for (Method method : ShoeHouse.class.getMethods()) {
            if (method.getDeclaringClass() == ShoeHouse.class && method.getName().equals(name)) {
                return answer(house, method, arguments);
            }
        }
        return "no such call";
    }

    private static String answer(ShoeHouse house, Method method, String arguments) {
        String[] texts = arguments.isEmpty() ? new String[0] : arguments.split(", ");
        Class<?>[] types = method.getParameterTypes();
        if (texts.length != types.length) {
            return "not so many arguments";
        }
        Object[] values = new Object[types.length];
        for (int i = 0; i < values.length; i++) {
            values[i] = value(types[i], texts[i]);
        }
        try {
            return String.valueOf(method.invoke(house, values));
        } catch (InvocationTargetException thrown) {
            return "throws " + thrown.getCause().getClass().getSimpleName();
        } catch (IllegalAccessException hidden) {
            return "hidden";
        }
    }

    private static Object value(Class<?> type, String text) {
        if (type == char.class) {
            return text.charAt(1);
        }
        if (type == boolean.class) {
            return text.equals("true");
        }
        return Integer.valueOf(text);
    }
}
