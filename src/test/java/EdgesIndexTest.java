import java.io.IOException;
import java.lang.reflect.Method;
import java.nio.file.Files;
import java.nio.file.Path;
import java.util.ArrayList;
import java.util.LinkedHashMap;
import java.util.List;
import java.util.Map;
import java.util.Set;
import java.util.regex.Matcher;
import java.util.regex.Pattern;

/** Whether each sentence that a test of a boundary names stands in the document, and each sentence has its test. */
public final class EdgesIndexTest {

    private static final Path DOCUMENT = Path.of("../shared/DOC.md");
    private static final int PROMISES = 26;
    private static final String ORDER = "If several exceptions apply, the one that is listed first is thrown.";
    private static final String SAVING = "saves the state";

    private static final Class<?>[] TESTS = {
        EdgesOfFightersTest.class, EdgesOfTurnsTest.class, EdgesOfActsTest.class, EdgesOfWhatIfTest.class,
        EdgesOfTextTest.class, EdgesOfStateTest.class,
    };

    /** Sentences that name no boundary: headings, words, and answers that the lines above them tell already. */
    private static final Set<String> WORDS_ALONE = Set.of(
        "Fighters.", "(Who has not fallen, stands.)", "Effects.", "Harm.", "Rounds.", "Acts.", "Script text.", "Undo.",
        "Exceptions.", "The kinds: 0 poison, 1 haste, 2 slow, 3 shield, 4 stun.",
        "Each of them is waiting, has had its turn, or has delayed.",
        "An act has a kind, an actor, a target, and numbers.",
        "Returns that value.", "Returns that number.", "Returns the fighter.");

    private final Check check = new Check("EdgesIndexTest");
    private final Map<String, String> chapters = new LinkedHashMap<>();
    private final List<Holds> held = new ArrayList<>();

    public static void main(String[] args) throws IOException {
        new EdgesIndexTest().run();
    }

    private void run() throws IOException {
        read();
        for (Class<?> tests : TESTS) {
            for (Method method : Edges.tests(tests)) {
                held.add(method.getAnnotation(Holds.class));
            }
        }
        sentencesStandInTheDocument();
        for (int promise = 1; promise <= PROMISES; promise++) {
            eachLineHasATest(promise);
        }
        eachTermHasATest();
        check.finish();
    }

    /** Chapters of promises are known by "Promise" and the number, the others by their headings. */
    private void read() throws IOException {
        for (String chapter : Files.readString(DOCUMENT).split("(?m)^#+ ")) {
            int end = chapter.indexOf('\n');
            if (end > 0) {
                String heading = chapter.substring(0, end).replaceFirst("^(Promise \\d+):.*", "$1");
                chapters.put(heading, chapter.substring(end));
            }
        }
    }

    private String chapter(int promise) {
        return chapters.getOrDefault("Promise " + promise, "");
    }

    private void sentencesStandInTheDocument() {
        String general = chapters.get("What it is") + chapters.get("Terms");
        for (Holds holds : held) {
            String text = chapter(holds.promise()) + general;
            check.yes("P" + holds.promise() + " says " + holds.says(), text.contains(holds.says()));
        }
    }

    /** Arguments, answers, refusals, their order, and that the call is undoable. */
    private void eachLineHasATest(int promise) {
        String text = chapter(promise);
        check.no("P" + promise + " is missing", text.isEmpty());
        int refusals = 0;
        for (String line : text.split("\n")) {
            boolean refusal = line.startsWith("Throws ");
            refusals += refusal ? 1 : 0;
            boolean answer = line.startsWith("Returns ") && !WORDS_ALONE.contains(line);
            if (refusal || answer || line.startsWith("- `")) {
                check.yes("P" + promise + " has a test of: " + line, hasTestWithin(promise, line));
            }
        }
        if (refusals > 1) {
            check.yes("P" + promise + " has a test of the order of its refusals", hasTestOf(promise, ORDER));
        }
        if (text.contains("Undoable")) {
            boolean tested = hasTestOf(promise, "Undoable") || hasTestOf(promise, SAVING);
            check.yes("P" + promise + " has a test of undo", tested);
        }
    }

    private boolean hasTestWithin(int promise, String line) {
        for (Holds holds : held) {
            if (holds.promise() == promise && line.contains(holds.says())) {
                return true;
            }
        }
        return false;
    }

    private boolean hasTestOf(int promise, String words) {
        for (Holds holds : held) {
            if (holds.promise() == promise && holds.says().contains(words)) {
                return true;
            }
        }
        return false;
    }

    private void eachTermHasATest() {
        Matcher sentences = Pattern.compile("\\S.*?(?<!interface says)[.)](?=\\s+[A-Z(\"]|\\s*$)", Pattern.MULTILINE)
                .matcher(chapters.get("Terms"));
        while (sentences.find()) {
            String sentence = sentences.group();
            if (!WORDS_ALONE.contains(sentence) && !sentence.startsWith("Ahead of the calls")) {
                check.yes("Terms, a test of: " + sentence, isHeldByAny(sentence));
            }
        }
    }

    private boolean isHeldByAny(String sentence) {
        for (Holds holds : held) {
            if (sentence.contains(holds.says()) || holds.says().contains(sentence)) {
                return true;
            }
        }
        return false;
    }
}
