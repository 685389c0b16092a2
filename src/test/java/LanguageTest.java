import java.io.DataInputStream;
import java.io.IOException;
import java.lang.reflect.Executable;
import java.lang.reflect.Field;
import java.lang.reflect.Method;
import java.lang.reflect.Modifier;
import java.nio.file.Files;
import java.nio.file.Path;
import java.util.ArrayList;
import java.util.Arrays;
import java.util.List;
import java.util.Set;
import java.util.TreeSet;

/** The rules of LANGUAGE.md that can be read off the compiled classes; FaceTest has the others' words. */
public final class LanguageTest {
    private static final Answers A = new Answers("LanguageTest");
    private static final List<Class<?>> CLASSES = allOf(TypeCases.class);
    private static final Set<Class<?>> PLAIN = Set.of(int.class, long.class, short.class, byte.class, char.class,
        boolean.class, void.class);
    private static final Set<Class<?>> CONSTANTS = Set.of(int.class, long.class, boolean.class, char.class,
        String.class);
    // Every constructor begins with that of Object; the rest of the library is what rule 4 lists.
    private static final Set<String> LIBRARY = Set.of("java/lang/Object.<init>", "java/lang/Math.min");
    private static final int MOST_CLASSES = 12, MOST_FIELDS = 20, MOST_PARAMETERS = 7, MOST_LINES = 60;

    public static void main(String[] args) throws Exception {
        A.test("1: no private method bears the name of a public one", LanguageTest::names);
        A.test("2: static nested classes, private or package-visible", LanguageTest::nested);
        A.test("3: plain numbers, own classes, arrays of one dimension of these", LanguageTest::types);
        A.test("5: static fields are final, constants of int, long, boolean, char, String", LanguageTest::statics);
        A.test("11: seven parameters, twelve classes, twenty fields", LanguageTest::sizes);
        for (Class<?> one : CLASSES) {
            library(one);
        }
        methodLines();
        A.end();
    }

    private static List<Class<?>> allOf(Class<?> one) {
        List<Class<?>> all = new ArrayList<>();
        all.add(one);
        for (Class<?> inside : one.getDeclaredClasses()) {
            all.addAll(allOf(inside));
        }
        return all;
    }

    private static List<Executable> codeOf(Class<?> one) {
        List<Executable> all = new ArrayList<>(Arrays.asList(one.getDeclaredConstructors()));
        all.addAll(Arrays.asList(one.getDeclaredMethods()));
        return all;
    }

    private static void names() {
        Set<String> open = new TreeSet<>();
        for (Method method : TypeCases.class.getDeclaredMethods()) {
            if (Modifier.isPublic(method.getModifiers())) {
                open.add(method.getName());
            }
        }
        for (Class<?> one : CLASSES) {
            for (Method method : one.getDeclaredMethods()) {
                boolean shown = Modifier.isPublic(method.getModifiers());
                A.holds(method.toString(), shown ? one == TypeCases.class : !open.contains(method.getName()));
            }
        }
    }

    private static void nested() {
        for (Class<?> one : CLASSES) {
            int modifiers = one.getModifiers();
            A.holds(one + " is static", one == TypeCases.class || Modifier.isStatic(modifiers));
            A.holds(one + " is not open", one == TypeCases.class
                || !Modifier.isPublic(modifiers) && !Modifier.isProtected(modifiers));
            A.holds(one + " extends what is allowed", CLASSES.contains(one.getSuperclass())
                || one.getSuperclass() == Object.class);
            A.due(one + " implements", 0, one.getInterfaces().length);
        }
    }

    private static boolean allowed(Class<?> type) {
        Class<?> part = type.isArray() ? type.getComponentType() : type;
        return PLAIN.contains(part) || CLASSES.contains(part);
    }

    private static void types() {
        for (Class<?> one : CLASSES) {
            for (Field field : one.getDeclaredFields()) {
                A.holds(field.toString(), allowed(field.getType()));
            }
            for (Executable code : codeOf(one)) {
                for (Class<?> type : code.getParameterTypes()) {
                    A.holds(code.toString(), allowed(type));
                }
            }
            for (Method method : one.getDeclaredMethods()) {
                A.holds(method.toString(), allowed(method.getReturnType()));
            }
        }
    }

    private static void statics() {
        for (Class<?> one : CLASSES) {
            for (Field field : one.getDeclaredFields()) {
                if (Modifier.isStatic(field.getModifiers())) {
                    A.holds(field + " is final", Modifier.isFinal(field.getModifiers()));
                    A.holds(field + " is a constant", CONSTANTS.contains(field.getType()));
                }
            }
        }
    }

    private static void sizes() {
        A.holds("classes", CLASSES.size() <= MOST_CLASSES);
        for (Class<?> one : CLASSES) {
            long own = Arrays.stream(one.getDeclaredFields()).filter(f -> !Modifier.isStatic(f.getModifiers())).count();
            A.holds(one + " fields", own <= MOST_FIELDS);
            for (Executable code : codeOf(one)) {
                A.holds(code.toString(), code.getParameterCount() <= MOST_PARAMETERS);
            }
        }
    }

    /** Methods of the outer class stand four spaces in, those of the classes inside it eight. */
    private static void methodLines() throws IOException {
        List<String> lines = Files.readAllLines(Path.of("src/main/java/TypeCases.java"));
        for (String margin : new String[] {"    ", "        "}) {
            int begun = -1;
            for (int i = 0; i < lines.size(); i++) {
                String line = lines.get(i);
                if (line.startsWith(margin) && !line.startsWith(margin + " ") && line.endsWith(") {")) {
                    begun = i;
                }
                if (line.equals(margin + "}") && begun >= 0) {
                    A.holds("lines of " + lines.get(begun).trim(), i - begun < MOST_LINES);
                    begun = -1;
                }
            }
        }
    }

    /** What a class calls stands in its pool of constants, so nothing that it calls can be missed there. */
    private static void library(Class<?> one) throws IOException {
        String file = one.getName() + ".class";
        try (DataInputStream in = new DataInputStream(LanguageTest.class.getResourceAsStream(file))) {
            new Pool(in).check(one.getName());
        }
    }

    /** The pool of constants of a class file, as the machine's specification lays it out. */
    private static final class Pool {
        private final int[] tags;
        private final int[] first;
        private final int[] second;
        private final String[] texts;

        Pool(DataInputStream in) throws IOException {
            in.readInt();
            in.readInt();
            int size = in.readUnsignedShort();
            tags = new int[size];
            first = new int[size];
            second = new int[size];
            texts = new String[size];
            for (int i = 1; i < size; i++) {
                read(in, i);
                // Longs and doubles take two numbers of the pool.
                if (tags[i] == 5 || tags[i] == 6) {
                    i++;
                }
            }
        }

        private void read(DataInputStream in, int i) throws IOException {
            tags[i] = in.readUnsignedByte();
            switch (tags[i]) {
                case 1:
                    texts[i] = in.readUTF();
                    break;
                case 3: case 4:
                    in.readInt();
                    break;
                case 5: case 6:
                    in.readLong();
                    break;
                case 7: case 8: case 16:
                    first[i] = in.readUnsignedShort();
                    break;
                case 9: case 10: case 11: case 12: case 17: case 18:
                    first[i] = in.readUnsignedShort();
                    second[i] = in.readUnsignedShort();
                    break;
                default:
                    throw new IOException("a constant of the tag " + tags[i]);
            }
        }

        void check(String name) {
            for (int i = 1; i < tags.length; i++) {
                A.holds(name + " has no float, double", tags[i] != 4 && tags[i] != 6);
                A.holds(name + " has no lambda, no method made as it runs", tags[i] != 16 && tags[i] != 18);
                if (tags[i] == 9 || tags[i] == 10 || tags[i] == 11) {
                    String owner = texts[first[first[i]]];
                    String member = owner + "." + texts[first[second[i]]];
                    boolean own = owner.equals("TypeCases") || owner.startsWith("TypeCases$");
                    A.holds(name + " uses " + member, own || LIBRARY.contains(member));
                }
            }
        }
    }
}
