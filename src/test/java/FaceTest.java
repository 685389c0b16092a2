import java.lang.reflect.Constructor;
import java.lang.reflect.Field;
import java.lang.reflect.Method;
import java.lang.reflect.Modifier;
import java.nio.file.Files;
import java.nio.file.Path;
import java.util.Arrays;
import java.util.Set;
import java.util.TreeSet;
import java.util.regex.Pattern;

/** The public face is the document's and no more, and the source keeps clear of what is ruled out. */
public final class FaceTest {
    private static final String[] METHODS = {
        "int hold(int, int, int)", "int letter(int, boolean)", "int set(int, int)", "int give(int, int)",
        "int lift(int, int)", "int number(int, int, long)", "int take(int, int, int)", "int put(int, int, int)",
        "int swap(int, int, int)", "int exchange(int, int, int, int)", "int kind(int)", "long value(int, int)",
        "int weight(int)", "long tell(int, int, int)", "int places(int)", "int sort(int)", "int turn(int)",
        "int order(int, int)", "int spread(int, int, int)", "int gather(int, int, int, int)",
        "int find(int, int)", "int failed()"};
    private static final String[] CONSTANTS = {"NONE=-1", "UNKNOWN=-1001", "OUTSIDE=-1002", "FULL=-1003"};
    private static final String[] RULED_OUT = {
        "throw", "throws", "try", "catch", "synchronized", "assert", "import", "package", "->", "::", "float",
        "double", "Float", "Double", "Exact", "System", "Object", "hashCode", "equals", "toString"};

    public static void main(String[] args) throws Exception {
        Answers answers = new Answers("FaceTest");
        int modifiers = TypeCases.class.getModifiers();
        answers.holds("public final", Modifier.isPublic(modifiers) && Modifier.isFinal(modifiers));
        answers.holds("methods", new TreeSet<>(Arrays.asList(METHODS)).equals(openMethods()));
        answers.holds("constants", new TreeSet<>(Arrays.asList(CONSTANTS)).equals(openFields()));
        Constructor<?>[] made = TypeCases.class.getDeclaredConstructors();
        answers.due("constructors", 1, made.length);
        answers.holds("its constructor", Modifier.isPublic(made[0].getModifiers()) && made[0].getParameterCount() == 0);
        privateNames(answers);
        source(answers);
        answers.end();
    }

    private static Set<String> openMethods() {
        Set<String> found = new TreeSet<>();
        for (Method m : TypeCases.class.getDeclaredMethods()) {
            if (!Modifier.isPrivate(m.getModifiers())) {
                String types = Arrays.toString(Arrays.stream(m.getParameterTypes()).map(Class::getName).toArray());
                found.add(m.getReturnType() + " " + m.getName() + "(" + types.substring(1, types.length() - 1) + ")");
            }
        }
        return found;
    }

    private static Set<String> openFields() throws Exception {
        Set<String> found = new TreeSet<>();
        for (Field f : TypeCases.class.getDeclaredFields()) {
            if (!Modifier.isPrivate(f.getModifiers())) {
                found.add(f.getName() + "=" + f.getInt(null));
            }
        }
        return found;
    }

    private static void privateNames(Answers answers) {
        Set<String> open = new TreeSet<>();
        for (String method : METHODS) {
            open.add(method.substring(method.indexOf(' ') + 1, method.indexOf('(')));
        }
        for (Method m : TypeCases.class.getDeclaredMethods()) {
            answers.holds("name of " + m, !Modifier.isPrivate(m.getModifiers()) || !open.contains(m.getName()));
        }
        for (Class<?> inside : TypeCases.class.getDeclaredClasses()) {
            answers.holds("static " + inside, Modifier.isStatic(inside.getModifiers()));
        }
    }

    private static void source(Answers answers) throws Exception {
        String text = Files.readString(Path.of("src/main/java/TypeCases.java"));
        String code = text.replaceAll("(?s)/\\*.*?\\*/", "").replaceAll("//.*", "");
        for (String word : RULED_OUT) {
            String quoted = Pattern.quote(word);
            String whole = Character.isLetter(word.charAt(0)) ? "\\b" + quoted + "\\b" : quoted;
            answers.holds("source without " + word, !Pattern.compile(whole).matcher(code).find());
        }
    }
}
