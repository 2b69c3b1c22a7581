import java.io.IOException;
import java.lang.reflect.Method;
import java.nio.file.Files;
import java.nio.file.Path;
import java.util.ArrayList;
import java.util.Arrays;
import java.util.LinkedHashMap;
import java.util.List;
import java.util.Map;

/** Looks whether each sentence of the document is held by a test, and each test holds a sentence of the document. */
public final class DocumentTest {
    static final Class<?>[] TESTS = {
        RequestSentencesTest.class, SettingSentencesTest.class, CallSentencesTest.class, ParcelSentencesTest.class
    };

    private static final String[] SECTIONS = {
        "Terms", "Requests", "Quotas", "Carriers", "Calls and quotes", "Parcels and bills"
    };
    private static final int PROMISES = 26;

    /** Lines that start like this, and sentences like these, tell of no answer that could be wrong. */
    private static final String NOTHING_TO_HOLD = "The constants:.*|Ahead of the calls .*|The calls type requests, .*"
            + "|Amounts are cents\\.|The keys are these letters, with what their values are to be:|and|or|of";

    public static void main(String[] args) throws IOException {
        Map<String, List<String>> sections = readSections(Files.readString(Path.of("../shared/DOC.md")));
        List<Holds> held = new ArrayList<>();
        for (Class<?> tests : TESTS) {
            for (Method test : Sentences.testsOf(tests)) {
                Holds holds = test.getAnnotation(Holds.class);
                held.add(holds);
                dueInDocument(test.getName(), holds, sections);
            }
        }
        for (int promise = 1; promise <= PROMISES; promise++) {
            duePromiseHeld(promise, sections, held);
        }
        for (String section : SECTIONS) {
            dueSectionHeld(section, sections, held);
        }
        Answers.end();
    }

    /** The lines below each heading; the heading of a promise is its number. */
    private static Map<String, List<String>> readSections(String document) {
        Map<String, List<String>> sections = new LinkedHashMap<>();
        List<String> lines = new ArrayList<>();
        for (String line : document.split("\n")) {
            if (line.startsWith("#")) {
                lines = new ArrayList<>();
                sections.put(line.replaceFirst("^#+ ", "").replaceFirst("^Promise (\\d+): .*", "$1"), lines);
            } else if (!line.isBlank()) {
                lines.add(line.trim());
            }
        }
        return sections;
    }

    private static List<String> linesOf(Map<String, List<String>> sections, String heading) {
        List<String> lines = sections.getOrDefault(heading, List.of());
        Answers.due("the document has the section " + heading, !lines.isEmpty(), true);
        return lines;
    }

    private static void dueInDocument(String test, Holds holds, Map<String, List<String>> sections) {
        String what = test + ": the document has under " + Sentences.placeOf(holds) + " \"" + holds.sentence() + "\"";
        if (!holds.section().isEmpty()) {
            String text = String.join("\n", linesOf(sections, holds.section()));
            Answers.due(what, text.contains(holds.sentence()), true);
            return;
        }
        for (int promise : holds.promise()) {
            String text = String.join("\n", linesOf(sections, Integer.toString(promise)));
            Answers.due(what + ", " + promise, text.contains(holds.sentence()), true);
        }
    }

    private static void duePromiseHeld(int promise, Map<String, List<String>> sections, List<Holds> held) {
        for (String line : linesOf(sections, Integer.toString(promise))) {
            String sentence = line.replaceFirst("^`[^`]*`: ", "");
            boolean isHeld = false;
            for (Holds holds : held) {
                isHeld |= holds.section().isEmpty() && isOneOf(promise, holds.promise())
                        && holds.sentence().equals(sentence);
            }
            Answers.due("a test holds of promise " + promise + " \"" + sentence + "\"", isHeld, true);
        }
    }

    private static boolean isOneOf(int number, int[] numbers) {
        for (int one : numbers) {
            if (one == number) {
                return true;
            }
        }
        return false;
    }

    /** What no test quotes of a section is to be nothing but joints between its sentences. */
    private static void dueSectionHeld(String section, Map<String, List<String>> sections, List<Holds> held) {
        for (String line : linesOf(sections, section)) {
            char[] rest = line.toCharArray();
            for (Holds holds : held) {
                int place = holds.section().equals(section) ? line.indexOf(holds.sentence()) : -1;
                if (place >= 0) {
                    Arrays.fill(rest, place, place + holds.sentence().length(), '|');
                }
            }
            for (String piece : new String(rest).split("\\|")) {
                String words = piece.replaceFirst("^[,;:. ]+", "").replaceFirst("[,; ]+$", "");
                boolean isHeld = words.isEmpty() || words.matches(NOTHING_TO_HOLD);
                Answers.due("a test holds of " + section + " \"" + words + "\"", isHeld, true);
            }
        }
    }
}
