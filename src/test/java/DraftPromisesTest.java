/** Each sentence of the promises 11 to 17, with a test of its own. */
public final class DraftPromisesTest extends Scanners {
    private static final String TEN = "a/b/c/d/e/f/g/h/i/j";

    private DraftPromisesTest() {
    }

    public static void main(String[] args) throws Exception {
        Sentences.run(DraftPromisesTest.class, 11, 17);
    }

    /** A scanner whose draft 2 has these lines. */
    private static VerseScanner of(String lines) {
        return added(new VerseScanner(), 2, lines.split("/"));
    }

    // ---- addLine

    @Sentence(promise = 11, value = "Reads the input as a line and adds it to a draft, where it gets a given number; "
            + "the numbers of all lines from there on increase by 1.")
    static void addLine() {
        String[] due = {"x/a/b/c", "a/x/b/c", "a/b/x/c", "a/b/c/x"};
        for (int i = 0; i < due.length; i++) {
            VerseScanner x = of("a/b/c");
            int at = i;
            fed(x, "x").addLine(2, at);
            Due.is("the draft after addLine at " + at, due[at], () -> texts(x, 2));
            Due.is("the other drafts", 0, () -> x.account(0, 0) + x.account(1, 0) + x.account(3, 0));
        }
        VerseScanner x = of("a/b/c/d/e/f/g/h/i");
        fed(x, "x, y z,").addLine(2, 0);
        Due.is("the tenth line before all", "x, y z,/a/b/c/d/e/f/g/h/i", () -> texts(x, 2));
        VerseScanner y = of("a/b/c/d/e/f/g/h/i");
        fed(y, "x").addLine(2, 9);
        Due.is("the tenth line behind all", "a/b/c/d/e/f/g/h/i/x", () -> texts(y, 2));
    }

    @Sentence(promise = 11, value = "The input is empty afterwards, also if an exception is thrown, but not if there "
            + "is no such draft or number.")
    static void inputAfterAddLine() {
        VerseScanner x = fed(of(TEN), "a ");
        Due.fails("no such draft", INDEX, () -> x.addLine(4, 0));
        Due.fails("no such number", INDEX, () -> x.addLine(2, 11));
        Due.fails("no such number", INDEX, () -> x.addLine(0, -1));
        Due.is("the input stays", 3, () -> x.feed('b'));
        Due.fails("no such number", INDEX, () -> x.addLine(0, 1));
        Due.is("addLine of it", 2, () -> x.addLine(0, 0));
        Due.is("the line", "a b", () -> text(x, 0, 0));
        Due.is("after a line", 1, () -> x.feed('1'));
        Due.fails("a text with an error", ARGUMENT, () -> x.addLine(0, 0));
        Due.is("after an error", 1, () -> x.feed('c'));
        Due.fails("a full draft", STATE, () -> x.addLine(2, 10));
        Due.is("after a full draft", 1, () -> x.feed('d'));
        Due.is("addLine of what was fed since", 1, () -> x.addLine(0, 1));
        Due.is("the line", "d", () -> text(x, 0, 1));
    }

    @Sentence(promise = 11, value = "- `at`: the number that the line gets, 0 to the number of lines")
    static void numbersToAdd() {
        for (int i = 0; i <= 9; i++) {
            int count = i;
            for (int j = 0; j <= count; j++) {
                int at = j;
                VerseScanner x = ofCount(count);
                Due.is("addLine at " + at + " of " + count, 1, () -> fed(x, "x").addLine(2, at));
                Due.is("its line " + at, "x", () -> text(x, 2, at));
            }
            for (int wrong : new int[] {-1, count + 1, Integer.MIN_VALUE, Integer.MAX_VALUE}) {
                Due.fails("addLine at " + wrong + " of " + count, INDEX, () -> fed(ofCount(count), "x").addLine(2, wrong));
            }
        }
    }

    private static VerseScanner ofCount(int count) {
        VerseScanner x = of(TEN);
        while (x.account(2, 0) > count) {
            x.removeLine(2, 0);
        }
        return x;
    }

    @Sentence(promise = 11, value = "Returns the number of words of the line.")
    static void addLineReturnsWords() {
        VerseScanner x = new VerseScanner();
        Due.is("1 word", 1, () -> fed(x, "ocean,").addLine(0, 0));
        Due.is("2 words", 2, () -> fed(x, "ocean, sea").addLine(0, 0));
        Due.is("12 words", 12, () -> fed(x, TWELVE).addLine(0, 0));
    }

    @Sentence(promise = 11, value = "Throws `IndexOutOfBoundsException` if there is no such draft or number")
    static void addLineToNoDraft() {
        needsDraft("addLine", (x, draft) -> fed(x, "x").addLine(draft, 0));
        for (int wrong : new int[] {-1, 4, Integer.MIN_VALUE, Integer.MAX_VALUE}) {
            failsAlone("addLine at " + wrong, INDEX, () -> fed(of("a/b/c"), "x"), x -> x.addLine(2, wrong), x -> { });
        }
        Due.fails("addLine at 11 of a full draft", INDEX, () -> fed(of(TEN), "x").addLine(2, 11));
        Due.fails("addLine at 10 of a full draft", STATE, () -> fed(of(TEN), "x").addLine(2, 10));
    }

    @Sentence(promise = 11, value = "Throws `IllegalArgumentException` if the text has an error")
    static void addLineOfError() {
        String[] texts = {"", "a ", "a,b", TWELVE.replace(" ", "") + "m"};
        int[] errors = {0, 2, 2, 12};
        for (int i = 0; i < texts.length; i++) {
            String text = texts[i];
            int error = errors[i];
            failsAlone("addLine of '" + text + "'", ARGUMENT, () -> of("a/b"), x -> fed(x, text).addLine(2, 1),
                    x -> erred(x, error));
            Due.fails("addLine of '" + text + "' to a full draft", ARGUMENT, () -> fed(of(TEN), text).addLine(2, 0));
        }
    }

    @Sentence(promise = 11, value = "Throws `IllegalStateException` if the draft has 10 lines")
    static void addLineToFullDraft() {
        for (int i = 0; i <= 10; i++) {
            int at = i;
            failsAlone("addLine at " + at, STATE, () -> of(TEN), x -> fed(x, "x").addLine(2, at), x -> { });
        }
        VerseScanner x = of(TEN);
        Due.is("another draft", 1, () -> fed(x, "x").addLine(3, 0));
        x.removeLine(2, 4);
        Due.is("the draft with 9 lines", 1, () -> fed(x, "x").addLine(2, 9));
        Due.fails("the draft with 10 lines again", STATE, () -> fed(x, "x").addLine(2, 9));
    }

    // ---- replaceLine

    @Sentence(promise = 12, value = "Reads the input as a line, which takes the place of a line of a draft.")
    static void replaceLine() {
        String[] due = {"x y/b/c", "a/x y/c", "a/b/x y"};
        for (int i = 0; i < due.length; i++) {
            VerseScanner x = of("a/b/c");
            int line = i;
            fed(x, "x y").replaceLine(2, line);
            Due.is("the draft after replaceLine of " + line, due[line], () -> texts(x, 2));
        }
        VerseScanner x = of(TEN);
        fed(x, "x").replaceLine(2, 9);
        Due.is("the last line of a full draft", "a/b/c/d/e/f/g/h/i/x", () -> texts(x, 2));
    }

    @Sentence(promise = 12, value = "The input is treated as for addLine.")
    static void inputAfterReplaceLine() {
        VerseScanner x = fed(of("a/b"), "x ");
        Due.fails("no such draft", INDEX, () -> x.replaceLine(-1, 0));
        Due.fails("no such line", INDEX, () -> x.replaceLine(2, 2));
        Due.is("the input stays", 3, () -> x.feed('y'));
        Due.is("replaceLine by it", 2, () -> x.replaceLine(2, 1));
        Due.is("the draft", "a/x y", () -> texts(x, 2));
        Due.is("after a line", 1, () -> x.feed('1'));
        Due.fails("a text with an error", ARGUMENT, () -> x.replaceLine(2, 1));
        Due.is("after an error", 1, () -> x.feed('c'));
    }

    @Sentence(promise = 12, value = "Returns the number of words of the new line.")
    static void replaceLineReturnsWords() {
        VerseScanner x = of("a b c/d");
        Due.is("1 word for 3", 1, () -> fed(x, "x").replaceLine(2, 0));
        Due.is("12 words for 1", 12, () -> fed(x, TWELVE).replaceLine(2, 1));
    }

    @Sentence(promise = 12, value = "Throws `IndexOutOfBoundsException` if there is no such draft or line")
    static void replaceNoLine() {
        needsLine("replaceLine", (x, draft, line) -> fed(x, "x").replaceLine(draft, line));
        failsAlone("replaceLine", INDEX, () -> fed(of("a/b/c"), "x"), x -> x.replaceLine(2, 3), x -> { });
    }

    @Sentence(promise = 12, value = "Throws `IllegalArgumentException` if the text has an error")
    static void replaceLineByError() {
        String[] texts = {"1", "a, ", "aaaaaaaaaaaaa"};
        int[] errors = {0, 3, 12};
        for (int i = 0; i < texts.length; i++) {
            String text = texts[i];
            int error = errors[i];
            failsAlone("replaceLine by '" + text + "'", ARGUMENT, () -> with("a", "b"),
                    x -> fed(x, text).replaceLine(0, 1), x -> erred(x, error));
        }
        Due.fails("replaceLine by the empty input", ARGUMENT, () -> of("a").replaceLine(2, 0));
        Due.fails("replaceLine by 13 words", ARGUMENT, () -> fed(of("a"), TWELVE + " m").replaceLine(2, 0));
    }

    // ---- removeLine

    @Sentence(promise = 13, value = "Removes a line; the numbers of all later ones decrease by 1.")
    static void removeLine() {
        String[] due = {"b/c", "a/c", "a/b"};
        for (int i = 0; i < due.length; i++) {
            VerseScanner x = of("a/b/c");
            int line = i;
            x.removeLine(2, line);
            Due.is("the draft after removeLine of " + line, due[line], () -> texts(x, 2));
        }
        VerseScanner x = of(TEN);
        x.removeLine(2, 0);
        Due.is("a full draft without its first line", "b/c/d/e/f/g/h/i/j", () -> texts(x, 2));
        VerseScanner y = of(TEN);
        y.removeLine(2, 9);
        Due.is("a full draft without its last line", "a/b/c/d/e/f/g/h/i", () -> texts(y, 2));
    }

    @Sentence(promise = 13, value = "Returns the number of lines that remain.")
    static void removeLineReturnsRest() {
        VerseScanner x = of(TEN);
        for (int i = 9; i >= 0; i--) {
            int last = i;
            Due.is("removeLine", last, () -> x.removeLine(2, last / 2));
        }
    }

    @Sentence(promise = 13, value = "Throws `IndexOutOfBoundsException` if there is no such draft or line")
    static void removeNoLine() {
        needsLine("removeLine", (x, draft, line) -> x.removeLine(draft, line));
        failsAlone("removeLine", INDEX, () -> of("a/b/c"), x -> x.removeLine(2, 3), x -> { });
        VerseScanner x = of("a");
        x.removeLine(2, 0);
        Due.fails("removeLine of the only one again", INDEX, () -> x.removeLine(2, 0));
    }

    // ---- moveLine

    private static void moves(int line, int to, String due) {
        VerseScanner x = of("a/b/c/d");
        x.moveLine(2, line, to);
        Due.is("the draft after moveLine of " + line + " to " + to, due, () -> texts(x, 2));
    }

    @Sentence(promise = 14, value = "Moves a line to another number in its draft; the others keep their order.")
    static void moveLine() {
        moves(0, 3, "b/c/d/a");
        moves(3, 0, "d/a/b/c");
        moves(0, 1, "b/a/c/d");
        moves(1, 0, "b/a/c/d");
        moves(1, 2, "a/c/b/d");
        moves(2, 1, "a/c/b/d");
        moves(2, 3, "a/b/d/c");
        moves(1, 3, "a/c/d/b");
        moves(3, 1, "a/d/b/c");
        moves(2, 2, "a/b/c/d");
        VerseScanner x = of(TEN);
        x.moveLine(2, 0, 9);
        Due.is("a full draft, forward", "b/c/d/e/f/g/h/i/j/a", () -> texts(x, 2));
        x.moveLine(2, 9, 0);
        Due.is("a full draft, back", TEN, () -> texts(x, 2));
    }

    @Sentence(promise = 14, value = "- `to`: the number that it has then")
    static void numberThatItHas() {
        for (int line = 0; line < 5; line++) {
            for (int i = 0; i < 5; i++) {
                int to = i;
                VerseScanner x = of("aa/bb/cc/dd/ee");
                String moved = text(x, 2, line);
                x.moveLine(2, line, to);
                Due.is("line " + to, moved, () -> text(x, 2, to));
                Due.is("the number of lines", 5, () -> x.account(2, 0));
            }
        }
    }

    @Sentence(promise = 14, value = "Returns the number of other lines whose numbers changed.")
    static void moveLineReturnsOthers() {
        VerseScanner x = of(TEN);
        int[][] due = {{0, 9, 9}, {9, 0, 9}, {0, 1, 1}, {1, 0, 1}, {2, 5, 3}, {5, 2, 3}, {4, 4, 0}, {9, 9, 0}};
        for (int[] one : due) {
            Due.is("moveLine of " + one[0] + " to " + one[1], one[2], () -> x.moveLine(2, one[0], one[1]));
        }
        Due.is("moveLine of the only one", 0, () -> of("a").moveLine(2, 0, 0));
    }

    @Sentence(promise = 14, value = "Throws `IndexOutOfBoundsException` if there is no such draft or line, or to is "
            + "no number of a line")
    static void moveNoLine() {
        needsLine("moveLine", (x, draft, line) -> x.moveLine(draft, line, 0));
        needsLine("moveLine", (x, draft, line) -> x.moveLine(draft, 0, line));
        failsAlone("moveLine behind the last one", INDEX, () -> of("a/b/c"), x -> x.moveLine(2, 0, 3), x -> { });
        failsAlone("moveLine of no line", INDEX, () -> of("a/b/c"), x -> x.moveLine(2, 3, 3), x -> { });
    }

    // ---- copyDraft

    @Sentence(promise = 15, value = "Copies a draft to another one, in place of what that held.")
    static void copyDraft() {
        VerseScanner x = added(of(TEN), 1, "x", "y z,");
        x.copyDraft(1, 2);
        Due.is("two lines in place of ten", "x/y z,", () -> texts(x, 2));
        Due.is("the draft itself", "x/y z,", () -> texts(x, 1));
        fed(x, "w").replaceLine(2, 0);
        x.removeLine(1, 1);
        Due.is("the copy, then changed", "w/y z,", () -> texts(x, 2));
        Due.is("the draft itself, then changed", "x", () -> texts(x, 1));
        x.undo();
        x.undo();
        x.undo();
        Due.is("ten lines again", TEN, () -> texts(x, 2));
        x.copyDraft(2, 0);
        Due.is("ten lines in place of none", TEN, () -> texts(x, 0));
        x.copyDraft(3, 2);
        Due.is("none in place of ten", "", () -> texts(x, 2));
        Due.is("the first copy", TEN, () -> texts(x, 0));
    }

    @Sentence(promise = 15, value = "- `to`: the other draft, possibly the same")
    static void copyToItself() {
        VerseScanner x = of(TEN);
        Due.is("copyDraft", 10, () -> x.copyDraft(2, 2));
        Due.is("the draft", TEN, () -> texts(x, 2));
        Due.is("which was a change", 7, () -> x.undo());
        Due.is("the draft", TEN, () -> texts(x, 2));
        Due.is("copyDraft of an empty one", 0, () -> x.copyDraft(0, 0));
    }

    @Sentence(promise = 15, value = "Returns the number of lines.")
    static void copyDraftReturnsLines() {
        for (int i = 0; i < 4; i++) {
            int to = i;
            Due.is("1 line", 1, () -> filled().copyDraft(0, to));
            Due.is("3 lines", 3, () -> filled().copyDraft(1, to));
            Due.is("10 lines", 10, () -> filled().copyDraft(2, to));
            Due.is("no lines", 0, () -> of("a").copyDraft(3, to));
        }
    }

    @Sentence(promise = 15, value = "Throws `IndexOutOfBoundsException` if there is no such draft")
    static void copyNoDraft() {
        needsDraft("copyDraft from", (x, draft) -> x.copyDraft(draft, 0));
        needsDraft("copyDraft to", (x, draft) -> x.copyDraft(0, draft));
        needsDraft("copyDraft from and to", (x, draft) -> x.copyDraft(draft, draft));
        failsAlone("copyDraft", INDEX, () -> of("a"), x -> x.copyDraft(2, 4), x -> { });
    }

    // ---- clearDraft

    @Sentence(promise = 16, value = "Removes all lines of a draft.")
    static void clearDraft() {
        VerseScanner x = filled();
        x.clearDraft(2);
        Due.is("the draft", "", () -> texts(x, 2));
        Due.is("draft 0", "sea", () -> texts(x, 0));
        Due.is("draft 1", "a/b/c", () -> texts(x, 1));
        Due.is("draft 3", "the ocean/over a day", () -> texts(x, 3));
        Due.is("a line added to it", 1, () -> fed(x, "x").addLine(2, 0));
        Due.is("the draft then", "x", () -> texts(x, 2));
    }

    @Sentence(promise = 16, value = "Returns the number of lines that it had.")
    static void clearDraftReturnsLines() {
        VerseScanner x = filled();
        int[] due = {1, 3, 10, 2};
        for (int i = 0; i < 4; i++) {
            int draft = i;
            Due.is("clearDraft " + draft, due[draft], () -> x.clearDraft(draft));
            Due.is("clearDraft " + draft + " again", 0, () -> x.clearDraft(draft));
        }
    }

    @Sentence(promise = 16, value = "Throws `IndexOutOfBoundsException` if there is no such draft")
    static void clearNoDraft() {
        needsDraft("clearDraft", (x, draft) -> x.clearDraft(draft));
        failsAlone("clearDraft", INDEX, () -> of("a"), x -> x.clearDraft(4), x -> { });
    }

    // ---- character

    @Sentence(promise = 17, value = "Returns a character of a line.")
    static void character() {
        VerseScanner x = of("a sea, the/b,");
        Due.is("the line with its blanks and commas", "a sea, the", () -> text(x, 2, 0));
        Due.is("the line with its comma at the end", "b,", () -> text(x, 2, 1));
        Due.is("a blank", ' ', () -> x.character(2, 0, 1));
        Due.is("a comma", ',', () -> x.character(2, 0, 5));
        Due.is("a letter", 't', () -> x.character(2, 0, 7));
    }

    @Sentence(promise = 17, value = "- `position`: the position, from 0")
    static void positionsOfCharacters() {
        String text = "abcdefghijkl abcdefghijkl abcdefghijkl abcdefghijkl xyz, uv,";
        VerseScanner x = of(text);
        for (int i = 0; i < 60; i++) {
            int position = i;
            Due.is("position " + position, text.charAt(position), () -> x.character(2, 0, position));
        }
        Due.fails("position 60", INDEX, () -> x.character(2, 0, 60));
    }

    @Sentence(promise = 17, value = "Throws `IndexOutOfBoundsException` if there is no such draft, line or position")
    static void noCharacter() {
        needsLine("character", (x, draft, line) -> x.character(draft, line, 0));
        VerseScanner x = of("a/abcd,/b");
        for (int wrong : new int[] {-1, 5, 6, Integer.MIN_VALUE, Integer.MAX_VALUE}) {
            Due.fails("position " + wrong, INDEX, () -> x.character(2, 1, wrong));
        }
        Due.fails("position 1 of a line of one letter", INDEX, () -> x.character(2, 0, 1));
    }
}
