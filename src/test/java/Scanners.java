import java.util.NoSuchElementException;

/** What the tests of answers share: scanners with lines and exceptions in them, and what a scanner holds, as a text. */
abstract class Scanners {
    static final Class<IllegalArgumentException> ARGUMENT = IllegalArgumentException.class;
    static final Class<IllegalStateException> STATE = IllegalStateException.class;
    static final Class<IndexOutOfBoundsException> INDEX = IndexOutOfBoundsException.class;
    static final Class<NoSuchElementException> ELEMENT = NoSuchElementException.class;
    static final Class<ArithmeticException> ARITHMETIC = ArithmeticException.class;
    static final String TWELVE = "a b c d e f g h i j k l";
    static final int[] ENDS = {Integer.MIN_VALUE, -1, Integer.MAX_VALUE};

    interface Maker {
        VerseScanner make();
    }

    interface Change {
        void on(VerseScanner x);
    }

    interface OfDraft {
        Object ask(VerseScanner x, int draft);
    }

    interface OfLine {
        Object ask(VerseScanner x, int draft, int line);
    }

    static VerseScanner fed(VerseScanner x, String text) {
        for (char c : text.toCharArray()) {
            x.feed(c);
        }
        return x;
    }

    static VerseScanner added(VerseScanner x, int draft, String... lines) {
        for (String line : lines) {
            fed(x, line).addLine(draft, x.account(draft, 0));
        }
        return x;
    }

    /** A scanner whose draft 0 has these lines. */
    static VerseScanner with(String... lines) {
        return added(new VerseScanner(), 0, lines);
    }

    static VerseScanner excepted(VerseScanner x, String... exceptions) {
        for (String exception : exceptions) {
            fed(x, exception).readException();
        }
        return x;
    }

    /**
     * A scanner whose draft 0 has lines of words of one syllable, each told by its mark, with commas: they have no
     * places for elisions. Its exceptions are n (mark 0) and s (mark 2); the word m has the mark 1 by the rules.
     */
    static VerseScanner marked(String... lines) {
        VerseScanner x = excepted(new VerseScanner(), "n 0", "s 2");
        for (String line : lines) {
            added(x, 0, ofMarks(line));
        }
        return x;
    }

    static String ofMarks(String marks) {
        StringBuilder text = new StringBuilder();
        for (char sign : marks.toCharArray()) {
            if (sign == ',') {
                text.append(',');
            } else {
                text.append(text.length() == 0 ? "" : " ").append("nms".charAt(sign - '0'));
            }
        }
        return text.toString();
    }

    /** Reads a text whose error is at a position, 0 to 12, and nothing else. */
    static void erred(VerseScanner x, int position) {
        Due.fails("a text with an error", ARGUMENT, () -> fed(x, "a".repeat(position) + "?").addLine(0, 0));
    }

    static String text(VerseScanner x, int draft, int line) {
        StringBuilder text = new StringBuilder();
        try {
            for (int i = 0; i < 61; i++) {
                text.append(x.character(draft, line, i));
            }
        } catch (IndexOutOfBoundsException e) {
            return text.toString();
        }
        return "no end";
    }

    static String texts(VerseScanner x, int draft) {
        StringBuilder all = new StringBuilder();
        for (int i = 0; i < x.account(draft, 0); i++) {
            all.append(i == 0 ? "" : "/").append(text(x, draft, i));
        }
        return all.toString();
    }

    static String rhymeOf(VerseScanner x, int line) {
        StringBuilder rhyme = new StringBuilder();
        for (int i = 0; i < x.line(0, line, 6); i++) {
            rhyme.append(x.rhyme(0, line, i));
        }
        return rhyme.toString();
    }

    /** All that can be asked of the state without a change. */
    static String state(VerseScanner x) {
        StringBuilder told = new StringBuilder();
        for (int i = 0; i < 3; i++) {
            told.append(x.metre(i)).append(' ');
        }
        told.append(x.exceptions());
        for (int draft = 0; draft < 4; draft++) {
            told.append(" | ").append(texts(x, draft));
            for (int line = 0; line < x.account(draft, 0); line++) {
                told.append(' ').append(x.reason(draft, line));
                for (int word = 0; word < x.line(draft, line, 0); word++) {
                    told.append(' ').append(x.word(draft, line, word, 4)).append(':').append(x.word(draft, line, word, 5));
                }
            }
        }
        return told.toString();
    }

    /**
     * All that an object holds: its state, its tolerance, its error position, its input, what can be undone and what
     * is saved. The object is asked in three copies of it, as some questions are changes.
     */
    static String dissected(Maker maker) {
        StringBuilder told = new StringBuilder("tolerance ").append(maker.make().setTolerance(0));
        VerseScanner reader = maker.make();
        told.append("\ninput ").append(Due.outcome(() -> reader.feed('z')));
        told.append(' ').append(Due.outcome(() -> reader.addLine(3, 0))).append(' ').append(text(reader, 3, 0));
        VerseScanner x = maker.make();
        told.append("\nerror ").append(Due.outcome(() -> x.errorPosition())).append("\nnow ").append(state(x));
        Object undone = Due.outcome(() -> x.undo());
        while (undone instanceof Integer) {
            told.append("\nundo ").append(undone).append(' ').append(state(x));
            undone = Due.outcome(() -> x.undo());
        }
        told.append("\nrestore ").append(Due.outcome(() -> x.restore())).append(' ').append(state(x));
        return told.append("\ntolerance ").append(x.setTolerance(0)).toString();
    }

    /** A call that has a draft for each of the numbers 0 to 3 alone. */
    static void needsDraft(String call, OfDraft asked) {
        for (int wrong : new int[] {-1, 4, Integer.MIN_VALUE, Integer.MAX_VALUE}) {
            Due.fails(call + " of draft " + wrong, INDEX, () -> asked.ask(filled(), wrong));
        }
        for (int i = 0; i < 4; i++) {
            int draft = i;
            Due.holds(call + " of draft " + draft + " has that draft",
                    !INDEX.getName().equals(Due.outcome(() -> asked.ask(filled(), draft))));
        }
    }

    /** A call that has a draft for each of the numbers 0 to 3 alone, and a line for each number below their count. */
    static void needsLine(String call, OfLine asked) {
        needsDraft(call, (x, draft) -> asked.ask(x, draft, 0));
        int[][] wrong = {{0, -1}, {0, 1}, {1, 3}, {2, 10}, {2, Integer.MIN_VALUE}, {3, 2}, {3, Integer.MAX_VALUE}};
        for (int[] one : wrong) {
            Due.fails(call + " of line " + one[1], INDEX, () -> asked.ask(filled(), one[0], one[1]));
        }
        Due.fails(call + " of line 0 of an empty draft", INDEX, () -> asked.ask(new VerseScanner(), 0, 0));
        int[][] last = {{0, 0}, {1, 2}, {2, 9}, {3, 1}};
        for (int[] one : last) {
            Due.holds(call + " of line " + one[1] + " has that line",
                    !INDEX.getName().equals(Due.outcome(() -> asked.ask(filled(), one[0], one[1]))));
        }
    }

    /** A scanner whose drafts have 1, 3, 10 and 2 lines. */
    static VerseScanner filled() {
        VerseScanner x = added(with("sea"), 1, "a", "b", "c");
        added(x, 2, "a", "b", "c", "d", "e", "f", "g", "h", "i", "j");
        return added(x, 3, "the ocean", "over a day");
    }

    /** A call that fails as it is due, and leaves everything unchanged but for what is done to the twin. */
    static void failsAlone(String call, Class<? extends Exception> due, Maker maker, Change made, Change onTwin) {
        Maker after = () -> {
            VerseScanner x = maker.make();
            Due.outcome(() -> {
                made.on(x);
                return "";
            });
            return x;
        };
        Maker twin = () -> {
            VerseScanner x = maker.make();
            onTwin.on(x);
            return x;
        };
        VerseScanner x = maker.make();
        Due.fails(call, due, () -> {
            made.on(x);
            return "nothing thrown";
        });
        String expected = dissected(twin);
        Due.is("what an object holds after " + call, expected, () -> dissected(after));
    }
}
