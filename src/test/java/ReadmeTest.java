import java.io.IOException;
import java.net.URL;
import java.net.URLClassLoader;
import java.nio.file.Files;
import java.nio.file.Path;
import java.util.List;
import java.util.Map;
import java.util.regex.Matcher;
import java.util.regex.Pattern;
import javax.tools.ToolProvider;

/** README.md tells of each group of calls, and its examples answer what it says. */
final class ReadmeTest {
    private static final Pattern EXAMPLE = Pattern.compile("```java\\n(.*?)```", Pattern.DOTALL);
    private static final Pattern ANSWERED = Pattern.compile("(stack\\..*);\\s*// ([-\\w.]+).*");

    public static void main(String[] args) throws IllegalAccessException {
        Checks.runAll(ReadmeTest.class);
    }

    private static String readme() throws IOException {
        return Files.readString(Path.of("README.md"));
    }

    static void promise01To38GroupsOfCalls() throws IOException {
        String readme = readme();
        Checks.due("how to run the tests", readme.contains("\n## Tests\n\n`.ci/run`"), true);
        if (!Document.isThere()) {
            return;
        }
        for (Map.Entry<String, List<String>> group : Document.groups().entrySet()) {
            String title = group.getKey().replace("---- ", "");
            String heading = "\n### " + title.substring(0, 1).toUpperCase() + title.substring(1)
                + "\n";
            int start = readme.indexOf(heading);
            Checks.due("there is" + heading, start >= 0, true);
            String section = start < 0 ? "" : readme.substring(start + 1).split("\n##")[0];
            for (String call : group.getValue()) {
                Checks.due("told: " + call, section.contains("\n| `" + call + "("), true);
                Checks.due("an example of " + call, readme.contains("stack." + call + "("), true);
            }
            Checks.due("an example of " + title, EXAMPLE.matcher(section).find(), true);
        }
    }

    static void promise01To38Examples() throws Exception {
        StringBuilder program = new StringBuilder("public final class Examples {\n"
            + "public static void main(String[] args) {\n");
        Matcher example = EXAMPLE.matcher(readme());
        while (example.find()) {
            for (String line : example.group(1).split("\n")) {
                program.append(checked(line)).append('\n');
            }
        }
        Path place = Files.createTempDirectory("readme");
        Path source = place.resolve("Examples.java");
        Files.writeString(source, program.append("}\n}\n"));
        int result = ToolProvider.getSystemJavaCompiler().run(null, null, null, "-cp",
            System.getProperty("java.class.path"), "-d", place.toString(), source.toString());
        Checks.due("the compiler", result, 0);
        if (result == 0) {
            runMain(place);
        }
        for (String name : new String[] {"Examples.java", "Examples.class", ""}) {
            Files.deleteIfExists(place.resolve(name));
        }
    }

    /** The call with a check that it answers what stands behind it. */
    private static String checked(String line) {
        Matcher answered = ANSWERED.matcher(line.strip());
        if (!answered.matches()) {
            return line;
        }
        String call = answered.group(1);
        String want = answered.group(2);
        String name = "(\"" + call.replace("\"", "\\\"") + "\", ";
        if (want.endsWith("Exception")) {
            String type = want.equals("NoSuchElementException") ? "java.util." + want : want;
            return "Checks.dueThrow" + name + type + ".class, () -> " + call + ");";
        }
        boolean isDouble = want.contains(".");
        return (isDouble ? "Checks.dueDouble" : "Checks.due") + name + call + ", " + want + ");";
    }

    private static void runMain(Path place) throws Exception {
        try (URLClassLoader loader = new URLClassLoader(new URL[] {place.toUri().toURL()},
                ReadmeTest.class.getClassLoader())) {
            loader.loadClass("Examples").getMethod("main", String[].class)
                .invoke(null, (Object) new String[0]);
        }
    }
}
