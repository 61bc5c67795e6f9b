import java.io.File;
import java.io.IOException;
import java.lang.reflect.Method;
import java.net.URL;
import java.net.URLClassLoader;
import java.nio.file.Files;
import java.nio.file.Path;
import java.util.ArrayList;
import java.util.HashSet;
import java.util.List;
import java.util.Set;
import java.util.regex.Matcher;
import java.util.regex.Pattern;
import javax.tools.ToolProvider;

/** README.md: its examples answer what they say, and the tests that it names are there. */
public final class ReadmeTest {
    private static final Pattern BLOCK = Pattern.compile("(?s)```java\n(.*?)```");
    private static final Pattern CALL = Pattern.compile("(?m)^((?:desk|send)\\S.*?);\\s*// (-?\\d+): .*$");
    private static final Pattern TEST_NAME = Pattern.compile("`([A-Z][A-Za-z]*Test)?(?:\\.([A-Za-z0-9]+))?`");

    private final String page;
    private final List<String> calls = new ArrayList<>();
    private final List<Integer> answers = new ArrayList<>();

    private ReadmeTest(String page) {
        this.page = page;
    }

    public static void main(String[] args) throws Exception {
        ReadmeTest test = new ReadmeTest(Files.readString(Path.of("README.md")));
        test.examplesAnswerWhatTheySay();
        test.examplesUseTheWholeFace();
        test.namedTestsAreThere();
        test.everyTestIsNamed();
        Desk.finish();
    }

    private void examplesAnswerWhatTheySay() throws Exception {
        String program = exampleProgram();
        Path folder = Files.createTempDirectory("readme");
        try {
            int[] got = compileAndRun(program, folder);
            for (int i = 0; i < calls.size(); i++) {
                Desk.due("README.md, call " + (i + 1) + ", " + calls.get(i) + ",", got[i], answers.get(i));
            }
        } finally {
            delete(folder);
        }
    }

    /** The blocks of the page as one class: those that declare a method as members, the others in a row. */
    private String exampleProgram() {
        StringBuilder members = new StringBuilder();
        StringBuilder statements = new StringBuilder();
        Matcher blocks = BLOCK.matcher(page);
        while (blocks.find()) {
            if (blocks.group(1).startsWith("static ")) {
                members.append(blocks.group(1));
            } else {
                statements.append("{\n").append(keepingAnswers(blocks.group(1))).append("}\n");
            }
        }
        return "public final class ReadmeExample {\n" + members + "public static int[] answers() {\n"
                + "int[] got = new int[" + calls.size() + "];\n" + statements + "return got;\n}\n}\n";
    }

    private String keepingAnswers(String block) {
        return CALL.matcher(block).replaceAll(found -> {
            calls.add(found.group(1));
            answers.add(Integer.parseInt(found.group(2)));
            return "got[" + (calls.size() - 1) + "] = " + Matcher.quoteReplacement(found.group(1)) + ";";
        });
    }

    private static int[] compileAndRun(String program, Path folder) throws Exception {
        Path file = folder.resolve("ReadmeExample.java");
        Files.writeString(file, program);
        int code = ToolProvider.getSystemJavaCompiler().run(null, null, null, "-cp",
                System.getProperty("java.class.path"), "-d", folder.toString(), file.toString());
        if (code != 0) {
            throw new IllegalStateException("the examples of README.md do not compile");
        }
        try (URLClassLoader loader = new URLClassLoader(new URL[] {folder.toUri().toURL()})) {
            return (int[]) loader.loadClass("ReadmeExample").getMethod("answers").invoke(null);
        }
    }

    private static void delete(Path folder) throws IOException {
        for (File file : folder.toFile().listFiles()) {
            Files.delete(file.toPath());
        }
        Files.delete(folder);
    }

    private void examplesUseTheWholeFace() {
        for (Method method : FlightDesk.class.getMethods()) {
            if (method.getDeclaringClass() == FlightDesk.class) {
                boolean used = calls.stream().anyMatch(call -> call.startsWith("desk." + method.getName() + "("));
                Desk.due("README.md uses " + method.getName(), used ? 1 : 0, 1);
            }
        }
    }

    private void namedTestsAreThere() {
        int named = 0;
        for (String line : page.split("\n")) {
            String test = "no test named before it";
            Matcher names = TEST_NAME.matcher(line.startsWith("|") ? line : "");
            while (names.find()) {
                test = names.group(1) == null ? test : names.group(1);
                Desk.due("README.md names " + test + " " + names.group(2), isThere(test, names.group(2)) ? 1 : 0, 1);
                named++;
            }
        }
        Desk.due("README.md names tests", named > 0 ? 1 : 0, 1);
    }

    private static boolean isThere(String test, String method) {
        if (!new File("src/test/java/" + test + ".java").isFile()) {
            return false;
        }
        return method == null || methodsOf(test).contains(method);
    }

    private static Set<String> methodsOf(String test) {
        Set<String> names = new HashSet<>();
        try {
            for (Method method : Class.forName(test).getDeclaredMethods()) {
                names.add(method.getName());
            }
        } catch (ClassNotFoundException missing) {
            Desk.due("class " + test, 0, 1);
        }
        return names;
    }

    private void everyTestIsNamed() {
        for (String file : new File("src/test/java").list()) {
            if (file.endsWith("Test.java")) {
                String test = file.substring(0, file.length() - ".java".length());
                Desk.due("README.md names " + test, page.contains("`" + test + "`") ? 1 : 0, 1);
            }
        }
    }
}
