import java.io.ByteArrayOutputStream;
import java.io.IOException;
import java.io.PrintStream;
import java.lang.reflect.Method;
import java.lang.reflect.Modifier;
import java.net.URL;
import java.net.URLClassLoader;
import java.nio.file.Files;
import java.nio.file.Path;
import java.util.ArrayList;
import java.util.List;
import java.util.Set;
import java.util.TreeSet;
import java.util.regex.Matcher;
import java.util.regex.Pattern;
import java.util.stream.Stream;
import javax.tools.ToolProvider;

/** Whether README.md says what the program does: its example, its table of calls, and its table of tests. */
public final class ReadmeTest {

    private static final Path DOCUMENT = Path.of("../shared/DOC.md");
    private static final Path OUT = Path.of("build/readme");
    private static final int CALLS = 25;

    private final Check check = new Check("ReadmeTest");
    private final String readme = Files.readString(Path.of("README.md"));

    private ReadmeTest() throws IOException {
    }

    public static void main(String[] args) throws Exception {
        ReadmeTest test = new ReadmeTest();
        test.exampleAnswersAsItSays();
        test.callsThrowWhatTheTableSays();
        test.tellsForHowManyCalls();
        test.eachTestIsNamed();
        test.check.finish();
    }

    private void exampleAnswersAsItSays() throws Exception {
        Matcher block = Pattern.compile("(?s)```java\n(.*?)```").matcher(readme);
        check.yes("README.md has an example", block.find());
        String example = block.group(1);
        check.no("README.md has a second example, which no test reads", block.find());
        List<String> due = answersIn(example);
        check.yes("the example has answers", due.size() > 10);
        check.same("the example answers", due.toString(), printedBy(example).toString());
    }

    /** Behind each line that prints there is a comment, which begins with the answer. */
    private List<String> answersIn(String example) {
        List<String> answers = new ArrayList<>();
        for (String line : example.split("\n")) {
            if (line.contains("System.out.println")) {
                Matcher answer = Pattern.compile("// ([^:]+): .+").matcher(line);
                check.yes("an answer stands behind " + line.trim(), answer.find());
                answers.add(answer.group(1));
            }
        }
        return answers;
    }

    private List<String> printedBy(String example) throws Exception {
        Path source = Files.createDirectories(OUT).resolve("Example.java");
        Files.writeString(source, example);
        int wrong = ToolProvider.getSystemJavaCompiler().run(null, null, null, "-Xlint:all", "-Werror",
                "-cp", System.getProperty("java.class.path"), "-d", OUT.toString(), source.toString());
        check.same("javac of the example", 0, wrong);
        ByteArrayOutputStream printed = new ByteArrayOutputStream();
        PrintStream console = System.out;
        try (URLClassLoader loader = new URLClassLoader(new URL[] {OUT.toUri().toURL()})) {
            System.setOut(new PrintStream(printed, true));
            loader.loadClass("Example").getMethod("main", String[].class).invoke(null, (Object) new String[0]);
        } finally {
            System.setOut(console);
        }
        return printed.toString().lines().toList();
    }

    private void callsThrowWhatTheTableSays() throws IOException {
        String document = Files.readString(DOCUMENT);
        int calls = 0;
        for (Method method : SpeedTurns.class.getDeclaredMethods()) {
            if (!Modifier.isPublic(method.getModifiers())) {
                continue;
            }
            String name = method.getName();
            Matcher row = Pattern.compile("(?m)^\\| `" + name + "\\((.*?)\\)` \\|(.*?)\\|(.*?)\\|(.*?)\\|$").matcher(readme);
            if (!row.find()) {
                continue;
            }
            calls++;
            check.same(name + "'s arguments", argumentsIn(document, name), row.group(1));
            check.same(name + " throws", thrownBy(method), thrownIn(row.group(3)));
            boolean undoable = chapterOf(document, name).contains("Undoable");
            check.yes(name + " is undoable or not", undoable == row.group(4).trim().startsWith("yes"));
        }
        check.same("calls of the face that have a row", CALLS, calls);
    }

    private static String chapterOf(String document, String name) {
        Matcher chapter = Pattern.compile("(?ms)^## Promise \\d+: " + name + "$(.*?)(?=^## )").matcher(document);
        return chapter.find() ? chapter.group(1) : "";
    }

    private static String argumentsIn(String document, String name) {
        Matcher face = Pattern.compile(" " + name + "\\((.*?)\\)").matcher(chapterOf(document, name));
        return face.find() ? face.group(1).replace("int ", "") : "no such call";
    }

    private static String thrownBy(Method method) {
        List<String> names = new ArrayList<>();
        for (Class<?> thrown : method.getExceptionTypes()) {
            names.add(thrown.getSimpleName());
        }
        return names.toString();
    }

    private static String thrownIn(String cell) {
        return Pattern.compile("\\w+Exception").matcher(cell).results().map(found -> found.group()).toList().toString();
    }

    private void tellsForHowManyCalls() throws IOException {
        String words = "is used for at most 512 calls after it has been made";
        check.yes("the document tells it so", Files.readString(DOCUMENT).contains(words));
        check.yes("README.md tells for how many calls an object is used", readme.contains(words));
    }

    private void eachTestIsNamed() throws IOException {
        Set<String> due = new TreeSet<>();
        try (Stream<Path> files = Files.list(Path.of("src/test/java"))) {
            files.map(file -> file.getFileName().toString()).filter(name -> name.endsWith("Test.java"))
                    .forEach(name -> due.add(name.replace(".java", "")));
        }
        Set<String> named = new TreeSet<>();
        Pattern.compile("(?m)^\\| (\\w+Test) \\|").matcher(readme).results().forEach(row -> named.add(row.group(1)));
        check.same("tests in the table", due.toString(), named.toString());
    }
}
