import java.io.IOException;
import java.lang.reflect.InvocationTargetException;
import java.lang.reflect.Method;
import java.lang.reflect.Modifier;
import java.nio.file.DirectoryStream;
import java.nio.file.Files;
import java.nio.file.Path;
import java.util.HashSet;
import java.util.List;
import java.util.Set;
import java.util.regex.Matcher;
import java.util.regex.Pattern;

/** README.md tells how to use the class by calls with their answers, and how to run its tests. It runs in the root. */
public final class ReadmeTest {
    private static final Pattern FED = Pattern.compile("feed\\(scanner, \"([^\"]*)\"\\);");
    private static final Pattern ASKED = Pattern.compile("scanner\\.(\\w+)\\(([^)]*)\\);\\s+// ([^:]+)(:.*)?");
    private static final Pattern CALL = Pattern.compile("^(feed\\(|scanner\\.).*");

    private final VerseScanner scanner = new VerseScanner();
    private final Set<String> shown = new HashSet<>();
    private int calls = 0;

    private ReadmeTest() {
    }

    public static void main(String[] args) throws IOException {
        List<String> lines = Files.readAllLines(Path.of("README.md"));
        ReadmeTest test = new ReadmeTest();
        for (String line : lines) {
            if (CALL.matcher(line).matches()) {
                test.follow(line);
            }
        }
        Due.holds("the example makes " + test.calls + " calls, which is more than 512", test.calls <= 512);
        test.checkFace();
        checkTests(String.join("\n", lines));
        Due.end();
    }

    private void follow(String line) {
        Matcher fed = FED.matcher(line);
        Matcher asked = ASKED.matcher(line);
        if (fed.matches()) {
            calls += fed.group(1).length();
            Scanners.fed(scanner, fed.group(1));
        } else if (asked.matches()) {
            calls++;
            shown.add(asked.group(1));
            Due.is(line, asked.group(3), () -> answer(asked.group(1), asked.group(2)));
        } else {
            Due.holds("no call with its answer: " + line, false);
        }
    }

    /** What a call answers, as a text, or the simple name of its exception. */
    private String answer(String name, String arguments) throws ReflectiveOperationException {
        String[] given = arguments.isEmpty() ? new String[0] : arguments.split(", ");
        for (Method method : VerseScanner.class.getDeclaredMethods()) {
            if (method.getName().equals(name)) {
                return outcome(method, given);
            }
        }
        return "no such method";
    }

    private String outcome(Method method, String[] given) throws ReflectiveOperationException {
        Object[] values = new Object[given.length];
        for (int i = 0; i < given.length; i++) {
            values[i] = value(given[i]);
        }
        try {
            return String.valueOf(method.invoke(scanner, values));
        } catch (InvocationTargetException e) {
            return e.getCause().getClass().getSimpleName();
        }
    }

    private static Object value(String text) {
        if (text.startsWith("'")) {
            return text.charAt(1);
        }
        return text.matches("true|false") ? (Object) Boolean.valueOf(text) : (Object) Integer.valueOf(text);
    }

    private void checkFace() {
        for (Method method : VerseScanner.class.getDeclaredMethods()) {
            if (Modifier.isPublic(method.getModifiers())) {
                Due.holds("the example does not show " + method.getName(), shown.contains(method.getName()));
            }
        }
    }

    private static void checkTests(String text) throws IOException {
        try (DirectoryStream<Path> tests = Files.newDirectoryStream(Path.of("src/test/java"), "*Test.java")) {
            for (Path test : tests) {
                String name = test.getFileName().toString().replace(".java", "");
                Due.holds("the list of tests does not tell of " + name, text.contains("`" + name + "`"));
            }
        }
    }
}
