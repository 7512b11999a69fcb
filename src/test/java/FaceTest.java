import java.io.IOException;
import java.lang.management.ManagementFactory;
import java.lang.reflect.Constructor;
import java.lang.reflect.Field;
import java.lang.reflect.Method;
import java.lang.reflect.Modifier;
import java.nio.file.Files;
import java.nio.file.Path;
import java.util.ArrayList;
import java.util.Arrays;
import java.util.List;
import java.util.Map;
import java.util.Set;
import java.util.TreeSet;
import java.util.regex.Matcher;
import java.util.regex.Pattern;

/** The face of the class, what can be seen of ../shared/LANGUAGE.md, and the room that runs need. */
final class FaceTest {
    private static final String NO_INDEX = "IndexOutOfBoundsException";
    private static final String BAD = "IllegalArgumentException";
    private static final String STATE = "IllegalStateException";
    private static final String REFUSED = "UnsupportedOperationException";
    private static final String NONE = "NoSuchElementException";

    private static final String[] FACE = {
        "int clear()",
        "int addCue(int) " + BAD + " " + STATE,
        "int removeCue(int, boolean) " + NO_INDEX + " " + REFUSED,
        "int cueAt(int) " + NONE,
        "int setFollow(int, int) " + NO_INDEX + " " + BAD,
        "int setBlock(int, boolean) " + NO_INDEX,
        "boolean setProtected(int, boolean) " + NO_INDEX,
        "int setPart(int, int, boolean, int) " + NO_INDEX + " " + BAD,
        "int cue(int, int) " + NO_INDEX + " " + BAD,
        "int part(int, int, boolean) " + NO_INDEX,
        "int setHome(int, int) " + NO_INDEX + " " + BAD,
        "int set(int, int, int, int, boolean) " + NO_INDEX + " " + BAD + " " + REFUSED,
        "int release(int, int, int, boolean) " + NO_INDEX + " " + REFUSED,
        "int unset(int, int, boolean) " + NO_INDEX + " " + REFUSED,
        "int instruction(int, int) " + NONE + " " + BAD,
        "int level(int, int) " + NO_INDEX,
        "int levelAgain(int, int) " + NO_INDEX,
        "int source(int, int) " + NO_INDEX,
        "int sum(int) " + NO_INDEX,
        "int apart(int, int) " + NO_INDEX,
        "int reason() " + NONE,
        "int go() " + REFUSED,
        "int back() " + REFUSED,
        "int jump(int) " + NO_INDEX,
        "int pass(int) " + BAD + " " + STATE,
        "int now(int) " + NO_INDEX,
        "int target(int) " + NO_INDEX,
        "int playing(int) " + BAD,
        "int chain(int) " + NO_INDEX,
        "int account(int) " + BAD,
        "double meanLevel()",
        "int append(char) " + BAD + " " + STATE,
        "int read() " + BAD + " " + STATE,
        "int errorPosition() " + NONE,
        "int undo() " + NONE,
        "int save()",
        "int restore() " + STATE,
    };

    public static void main(String[] args) throws IllegalAccessException {
        Checks.runAll(FaceTest.class);
    }

    private static String written(Method method) {
        StringBuilder text = new StringBuilder(method.getReturnType().getSimpleName());
        text.append(' ').append(method.getName()).append('(');
        for (Class<?> type : method.getParameterTypes()) {
            text.append(text.charAt(text.length() - 1) == '(' ? "" : ", ");
            text.append(type.getSimpleName());
        }
        text.append(')');
        for (Class<?> type : method.getExceptionTypes()) {
            text.append(' ').append(type.getSimpleName());
        }
        return text.toString();
    }

    static void promise01To38Face() {
        Set<String> got = new TreeSet<>();
        for (Method method : CueStack.class.getDeclaredMethods()) {
            if (!Modifier.isPrivate(method.getModifiers())) {
                Checks.due("is public: " + method, Modifier.isPublic(method.getModifiers()), true);
                Checks.due("is static: " + method, Modifier.isStatic(method.getModifiers()), false);
                got.add(written(method));
            }
        }
        for (String due : FACE) {
            Checks.due("there is " + due, got.remove(due), true);
        }
        Checks.due("nothing else: " + got, got.isEmpty(), true);
        Constructor<?>[] made = CueStack.class.getDeclaredConstructors();
        Checks.due("constructors", made.length, 1);
        Checks.due("parameters", made[0].getParameterCount(), 0);
        Checks.due("public", Modifier.isPublic(made[0].getModifiers()), true);
        Checks.due("final", Modifier.isFinal(CueStack.class.getModifiers()), true);
        for (Field field : CueStack.class.getDeclaredFields()) {
            Checks.due("private: " + field, Modifier.isPrivate(field.getModifiers()), true);
        }
    }

    private static String source() throws IOException {
        return Files.readString(Path.of("src/main/java/CueStack.java"));
    }

    /** The constructor and the methods stand as in the document, in its order. */
    static void promise01To38FaceOfTheDocument() throws IOException {
        Checks.due("the class", source().contains("\npublic final class CueStack {\n"), true);
        if (!Document.isThere()) {
            return;
        }
        List<String> face = Document.face();
        Checks.due("calls of the face", face.size(), FACE.length + 1);
        Matcher written = Pattern.compile("\n    (public [^;{]*\\([^;{]*)\\{").matcher(source());
        for (String due : face) {
            String got = written.find() ? Document.inOneLine(written.group(1)) : "nothing";
            Checks.due("there is " + got + ", due is " + due, got.equals(due), true);
        }
        Checks.due("nothing else", written.find(), false);
    }

    /** What the interface says ahead of its calls stands ahead of them alone. */
    static void promise01To38WordsAheadOfCalls() throws IOException {
        if (!Document.isThere()) {
            return;
        }
        Map<String, List<String>> groups = Document.groups();
        Checks.due("groups", groups.size(), 5);
        for (Map.Entry<String, List<String>> group : groups.entrySet()) {
            String[] pieces = source().split("\n    // " + group.getKey() + "\n");
            Checks.due("said once: " + group.getKey(), pieces.length, 2);
            List<String> calls = new ArrayList<>();
            String behind = pieces[pieces.length - 1].split("\n    // ----")[0];
            Matcher call = Pattern.compile("\n    public \\w+ (\\w+)\\(").matcher(behind);
            while (call.find()) {
                calls.add(call.group(1));
            }
            Checks.due(group + ", got " + calls, calls.equals(group.getValue()), true);
        }
    }

    static void promise01To38ClassesInside() {
        Set<String> face = new TreeSet<>();
        for (String line : FACE) {
            face.add(line.substring(line.indexOf(' ') + 1, line.indexOf('(')));
        }
        Class<?>[] inside = CueStack.class.getDeclaredClasses();
        Checks.due("at most twelve classes", inside.length < 12, true);
        for (Class<?> one : inside) {
            Checks.due("static: " + one, Modifier.isStatic(one.getModifiers()), true);
            Checks.due("private: " + one, Modifier.isPrivate(one.getModifiers()), true);
            for (Method method : one.getDeclaredMethods()) {
                Checks.due("no name of the face: " + method, face.contains(method.getName()), false);
            }
            dueFields(one);
        }
        dueFields(CueStack.class);
    }

    private static void dueFields(Class<?> one) {
        int fields = 0;
        for (Field field : one.getDeclaredFields()) {
            if (!Modifier.isStatic(field.getModifiers())) {
                fields++;
            } else {
                Checks.due("final: " + field, Modifier.isFinal(field.getModifiers()), true);
            }
        }
        Checks.due("at most twenty fields: " + one, fields <= 20, true);
        for (Method method : one.getDeclaredMethods()) {
            Checks.due("parameters of " + method, method.getParameterCount() <= 7, true);
        }
    }

    static void promise01To38Language() throws IOException {
        List<String> lines = Files.readAllLines(Path.of("src/main/java/CueStack.java"));
        String[] forbidden = {"->", "::", "Exact\\(", "\\btry\\b", "\\bcatch\\b", "\\bfinally\\b",
            "\\bassert\\b", "\\bsynchronized\\b", "\\binstanceof\\b", "\\bsuper\\b",
            "\\bSystem\\.(?!arraycopy)", "^package", "\\bprotected\\b", "\\+ *\"", "\" *\\+"};
        int imports = 0;
        for (String line : lines) {
            if (line.startsWith("import")) {
                imports++;
                Checks.due(line, line.equals("import java.util.NoSuchElementException;"), true);
            }
            for (String word : forbidden) {
                boolean isThere = Pattern.compile(word).matcher(line).find();
                Checks.due("no " + word + " in: " + line, isThere
                    && !line.strip().startsWith("*") && !line.strip().startsWith("/*")
                    && !line.contains("throw new"), false);
            }
        }
        Checks.due("imports", imports, 1);
    }

    static void promise01To38Room() {
        com.sun.management.ThreadMXBean threads =
            (com.sun.management.ThreadMXBean) ManagementFactory.getThreadMXBean();
        long self = Thread.currentThread().getId();
        CueStack stack = new CueStack();
        manyCalls(stack);
        long before = threads.getThreadAllocatedBytes(self);
        CueStack another = new CueStack();
        long made = threads.getThreadAllocatedBytes(self) - before;
        Checks.due("a new object takes " + made + " bytes", made < 60000, true);
        before = threads.getThreadAllocatedBytes(self);
        manyCalls(another);
        long used = threads.getThreadAllocatedBytes(self) - before;
        Checks.due("504 calls take " + used + " bytes", used < 10000, true);
    }

    private static void manyCalls(CueStack stack) {
        for (int number = 1; number <= 12; number++) {
            stack.addCue(number);
        }
        for (int call = 0; call < 41; call++) {
            stack.set(call % 12 + 1, call % 5, call, 0, false);
            stack.removeCue(call % 12 + 1, true);
            stack.addCue(call % 12 + 1);
            stack.append('g');
            stack.append(';');
            stack.jump(1);
            stack.read();
            stack.undo();
            stack.pass(6);
            stack.cue(12, 6);
            stack.account(7);
            stack.save();
        }
    }

    static void promise01To38EveryPromiseHasTests() {
        boolean[] tested = new boolean[39];
        for (Class<?> tests : Arrays.asList(CuesTest.class, LevelsTest.class, PlayingTest.class,
                TextsTest.class, HistoryTest.class)) {
            for (Method method : tests.getDeclaredMethods()) {
                if (method.getName().startsWith("promise")) {
                    tested[Integer.parseInt(method.getName().substring(7, 9))] = true;
                }
            }
        }
        for (int promise = 1; promise <= 38; promise++) {
            Checks.due("a test of promise " + promise, tested[promise], true);
        }
    }
}
