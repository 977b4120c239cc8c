import java.io.IOException;
import java.nio.file.Files;
import java.nio.file.Path;
import java.util.List;
import java.util.regex.Matcher;
import java.util.regex.Pattern;

/** Those rules of LANGUAGE.md that can be read off the text of the class. It runs in the project's root. */
public final class RulesTest {
    private static final String[] FORBIDDEN = {
        "\\bfinally\\b", "\\bsynchronized\\b", "\\bassert\\b", "->", "::", "\\bstatic\\s*\\{", "\\bprotected\\b",
        "\\btry\\b", "\\bcatch\\b", "Exact\\b", "\\bgetMessage\\b", "\\bhashCode\\b", "\\btoString\\b",
        "\\bordinal\\b", "\\bpackage\\b", "\\bSystem\\b", "\\bRandom\\b", "\\bThread\\b", "\\bHash", "\\bObject\\b",
        "\\bvar\\b", "\\bInteger\\.(MAX|MIN)", "\\blong\\[\\]\\[\\]\\[\\]", "@", "/\\s*0\\b",
    };
    private static final String[] LIBRARY = {
        "Arrays.fill", "Math.max", "Math.min", "Math.abs", "Integer.bitCount", "VOWELS.indexOf",
    };
    private static final int LONGEST_METHOD = 60;
    private static final int MOST_PARAMETERS = 7;

    private RulesTest() {
    }

    public static void main(String[] args) throws IOException {
        List<String> lines = Files.readAllLines(Path.of("src/main/java/VerseScanner.java"));
        String code = withoutWords(String.join("\n", lines));
        for (String forbidden : FORBIDDEN) {
            Matcher found = Pattern.compile(forbidden).matcher(code);
            Due.holds("the class holds " + forbidden, !found.find());
        }
        checkImports(lines);
        checkLibrary(code);
        checkThrows(code);
        checkMethods(code.split("\n", -1));
        Due.holds("signs outside 1 to 127", code.chars().allMatch(sign -> sign > 0 && sign < 128));
        Due.end();
    }

    /** The text without comments, and with nothing inside its strings. */
    private static String withoutWords(String text) {
        return text.replaceAll("(?s)/\\*.*?\\*/", "").replaceAll("//[^\n]*", "").replaceAll("\"[^\"\n]*\"", "\"\"");
    }

    private static void checkImports(List<String> lines) {
        for (String line : lines) {
            if (line.startsWith("import")) {
                Due.holds(line, line.equals("import java.util.Arrays;")
                        || line.equals("import java.util.NoSuchElementException;"));
            }
        }
    }

    private static void checkLibrary(String code) {
        Matcher used = Pattern.compile("\\b(Arrays|Math|Integer|Long|VOWELS|String|Character|List)\\.\\w+").matcher(code);
        while (used.find()) {
            Due.holds("the library has no " + used.group(), List.of(LIBRARY).contains(used.group()));
        }
    }

    private static void checkThrows(String code) {
        Matcher thrown = Pattern.compile("\\bthrow\\b[^;]*;").matcher(code);
        while (thrown.find()) {
            Due.holds(thrown.group(), thrown.group().matches("throw new (IllegalStateException"
                    + "|IllegalArgumentException|IndexOutOfBoundsException|ArithmeticException"
                    + "|NoSuchElementException)\\(\"\"\\);"));
        }
    }

    /** A method begins with a line that ends in ") {" or its throws clause, and ends with its own indent's brace. */
    private static void checkMethods(String[] lines) {
        Pattern head = Pattern.compile("^( {4}| {8})(?=[a-zA-Z])(?!return|if|for|while|switch|else)[\\w\\[\\]<> ]+\\(([^)]*)\\).*");
        for (int i = 0; i < lines.length; i++) {
            Matcher found = head.matcher(lines[i]);
            if (found.matches() && !lines[i].endsWith(";")) {
                int end = i + 1;
                while (end < lines.length && !lines[end].equals(found.group(1) + "}")) {
                    end++;
                }
                Due.holds(lines[i].trim() + " is too long", end - i < LONGEST_METHOD);
                Due.holds(lines[i].trim() + " takes too much",
                        found.group(2).split(",").length <= MOST_PARAMETERS);
            }
        }
    }
}
