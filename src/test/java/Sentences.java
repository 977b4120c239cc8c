import java.io.IOException;
import java.lang.reflect.InvocationTargetException;
import java.lang.reflect.Method;
import java.nio.file.Files;
import java.nio.file.Path;
import java.util.ArrayList;
import java.util.LinkedHashMap;
import java.util.List;
import java.util.Map;
import java.util.Set;
import java.util.regex.Matcher;
import java.util.regex.Pattern;

/**
 * Runs the tests of a class that are marked with a sentence of the document, in the document's order, and looks
 * whether each sentence has one. Chapter 0 is all that stands before the promises.
 */
final class Sentences {
    private static final Path DOCUMENT = Path.of("../shared/DOC.md");
    /** Titles, "Sets the metre.", "- `draft`: the draft": so few words name no boundary. */
    private static final int FEW_WORDS = 3;
    private static final Set<String> WITHOUT_BOUNDARY = Set.of(
            "The constructor and the methods follow, a promise each: the signature, then what it does.",
            "A scanner for the metre of poems: words with syllables and stress by rules and by exceptions, elisions, a "
                    + "caesura, scans of least cost, reasons why a line does not fit, rhymes and schemes, drafts that "
                    + "are compared, the metre that suits a draft best, lines and metres as texts, accounts, undo, and "
                    + "a snapshot.");

    private Sentences() {
    }

    static void run(Class<?> tests, int firstChapter, int lastChapter) throws IOException, ReflectiveOperationException {
        Map<String, List<Method>> marked = marked(tests);
        for (String sentence : sentences(firstChapter, lastChapter)) {
            List<Method> found = marked.remove(sentence);
            Due.about(sentence);
            if (found != null) {
                Due.holds("it has more than one test: " + found, found.size() == 1);
                run(found.get(0));
            } else {
                Due.holds("it has no test", !canNameBoundary(sentence));
            }
        }
        for (String sentence : marked.keySet()) {
            Due.about(sentence);
            Due.holds("the document has no such sentence", false);
        }
        Due.end();
    }

    private static void run(Method test) throws ReflectiveOperationException {
        int before = Due.calls();
        try {
            test.invoke(null);
        } catch (InvocationTargetException e) {
            Due.holds(test.getName() + " itself ended by " + e.getCause(), false);
        }
        Due.holds(test.getName() + " asks nothing", Due.calls() > before);
    }

    private static Map<String, List<Method>> marked(Class<?> tests) {
        Map<String, List<Method>> marked = new LinkedHashMap<>();
        for (Method method : tests.getDeclaredMethods()) {
            Sentence sentence = method.getAnnotation(Sentence.class);
            if (sentence != null) {
                marked.computeIfAbsent(named(sentence.promise(), sentence.value()), name -> new ArrayList<>()).add(method);
            }
        }
        return marked;
    }

    private static String named(int chapter, String sentence) {
        return chapter + ": " + sentence;
    }

    private static boolean canNameBoundary(String named) {
        String sentence = named.replaceFirst("^[0-9]+: ", "");
        String said = sentence.replaceFirst("^- `\\w+`: ", "");
        return said.split(" ").length > FEW_WORDS && !WITHOUT_BOUNDARY.contains(sentence);
    }

    /** The sentences, each with the number of its chapter before it; one that a chapter says twice stands once. */
    private static List<String> sentences(int firstChapter, int lastChapter) throws IOException {
        String text = Files.readString(DOCUMENT).replaceAll("(?s)```.*?```", "").replaceAll("(?s)\n## Not promised.*", "");
        Matcher heading = Pattern.compile("(?m)^#+ (Promise (\\d+))?.*$").matcher(text);
        List<String> sentences = new ArrayList<>();
        int chapter = 0;
        int start = 0;
        while (heading.find()) {
            addSentences(sentences, chapter, text.substring(start, heading.start()), firstChapter, lastChapter);
            chapter = heading.group(2) == null ? 0 : Integer.parseInt(heading.group(2));
            start = heading.end();
        }
        addSentences(sentences, chapter, text.substring(start), firstChapter, lastChapter);
        return sentences;
    }

    private static void addSentences(List<String> sentences, int chapter, String text, int first, int last) {
        if (chapter < first || chapter > last) {
            return;
        }
        for (String part : text.split("\n\\s*\n|\n(?=- )")) {
            String paragraph = part.trim().replaceAll("\\s+", " ");
            boolean isSignature = paragraph.startsWith("`") || paragraph.startsWith("----");
            for (String sentence : paragraph.split("(?<=\\.) (?=[A-Z])")) {
                String named = named(chapter, sentence);
                if (!isSignature && !sentence.isEmpty() && !sentences.contains(named)) {
                    sentences.add(named);
                }
            }
        }
    }
}
