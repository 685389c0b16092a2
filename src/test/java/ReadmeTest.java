import java.lang.reflect.Method;
import java.nio.file.Files;
import java.nio.file.Path;
import java.util.HashMap;
import java.util.Map;
import java.util.TreeSet;
import java.util.regex.Matcher;
import java.util.regex.Pattern;

/** The example of README.md, call by call: each comment begins with the answer that is due. */
public final class ReadmeTest {
    private static final Pattern CALL = Pattern.compile("x\\.(\\w+)\\((.*)\\); *// (-?\\d+): .*");
    private static final Answers A = new Answers("ReadmeTest");
    private static final Map<String, Method> METHODS = methods();

    public static void main(String[] args) throws Exception {
        String text = Files.readString(Path.of("README.md"));
        example(text);
        for (String name : new TreeSet<>(METHODS.keySet())) {
            A.holds("README.md lists " + name, text.contains("| `" + name + "("));
        }
        A.end();
    }

    private static void example(String text) throws Exception {
        TypeCases x = new TypeCases();
        int calls = 0;
        for (String line : text.split("\n")) {
            Matcher call = CALL.matcher(line);
            if (call.matches()) {
                calls++;
                A.due("README.md: " + line, Long.parseLong(call.group(3)), answer(x, call.group(1), call.group(2)));
            } else {
                A.holds("README.md tells the answer: " + line, !line.startsWith("x."));
            }
        }
        A.holds("README.md has an example", calls > 0);
    }

    private static long answer(TypeCases x, String name, String list) throws Exception {
        Method method = METHODS.get(name);
        Class<?>[] types = method.getParameterTypes();
        String[] texts = list.isEmpty() ? new String[0] : list.split(", ");
        Object[] values = new Object[types.length];
        for (int i = 0; i < types.length; i++) {
            values[i] = valueOf(texts[i], types[i]);
        }
        return ((Number) method.invoke(x, values)).longValue();
    }

    private static Object valueOf(String text, Class<?> type) {
        if (type == boolean.class) {
            return Boolean.valueOf(text);
        }
        if (type == long.class) {
            return Long.valueOf(text);
        }
        return Integer.valueOf(text);
    }

    private static Map<String, Method> methods() {
        Map<String, Method> found = new HashMap<>();
        for (Method method : TypeCases.class.getMethods()) {
            if (method.getDeclaringClass() == TypeCases.class) {
                found.put(method.getName(), method);
            }
        }
        return found;
    }
}
