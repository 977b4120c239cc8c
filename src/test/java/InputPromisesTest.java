/** Each sentence of the promises 1 to 10, with a test of its own. */
public final class InputPromisesTest extends Scanners {
    private static final String[] KINDS = {"iamb", "trochee", "anapest", "dactyl"};
    private static final int[] FOOT_SIZES = {2, 2, 3, 3};

    private InputPromisesTest() {
    }

    public static void main(String[] args) throws Exception {
        Sentences.run(InputPromisesTest.class, 1, 10);
    }

    @Sentence(promise = 1, value = "Creates a scanner with empty drafts and without exceptions.")
    static void newObject() {
        VerseScanner used = excepted(with("a"), "a 1");
        VerseScanner x = new VerseScanner();
        for (int i = 0; i < 4; i++) {
            int draft = i;
            Due.is("lines of draft " + draft, 0, () -> x.account(draft, 0));
            Due.fails("line 0 of draft " + draft, INDEX, () -> x.line(draft, 0, 0));
        }
        Due.is("exceptions", 0, () -> x.exceptions());
        Due.fails("exception 0", INDEX, () -> x.dropException(0));
        Due.is("the exceptions of another object", 1, () -> used.exceptions());
    }

    // ---- feed

    @Sentence(promise = 2, value = "Appends a character to the input.")
    static void feedAppends() {
        VerseScanner x = new VerseScanner();
        fed(fed(x, "ab"), " c").addLine(0, 0);
        Due.is("the line", "ab c", () -> text(x, 0, 0));
    }

    @Sentence(promise = 2, value = "- `character`: any character")
    static void feedAnyCharacter() {
        VerseScanner x = new VerseScanner();
        int[] signs = {0, 1, ' ', 'a', 127, 128, 255, 256, 0xd800, 0xffff};
        for (int i = 0; i < signs.length; i++) {
            char sign = (char) signs[i];
            Due.is("feed of " + signs[i], i + 1, () -> x.feed(sign));
        }
    }

    @Sentence(promise = 2, value = "Returns the new length of the input.")
    static void feedReturnsLength() {
        VerseScanner x = new VerseScanner();
        for (int i = 1; i <= 60; i++) {
            Due.is("feed", i, () -> x.feed('a'));
        }
        Due.outcome(() -> x.readMetre());
        Due.is("feed of an empty input", 1, () -> x.feed('a'));
    }

    @Sentence(promise = 2, value = "Throws `IllegalStateException` if the input has 60 characters")
    static void feedOfFullInput() {
        String text = "abcdefghijkl abcdefghijkl abcdefghijkl abcdefghijkl ab, abc";
        VerseScanner x = fed(new VerseScanner(), text);
        Due.is("the 60th", 60, () -> x.feed('d'));
        Due.fails("a 61st", STATE, () -> x.feed('e'));
        Due.fails("a 61st again", STATE, () -> x.feed('f'));
        x.addLine(0, 0);
        Due.is("the line has the first 60", text + "d", () -> text(x, 0, 0));
        Due.is("feed then", 1, () -> x.feed('a'));
    }

    // ---- errorPosition

    @Sentence(promise = 3, value = "Returns the error position of the text that was read last with an error.")
    static void errorPositionOfLast() {
        VerseScanner x = new VerseScanner();
        Due.outcome(() -> fed(x, "ab1").addLine(0, 0));
        Due.is("of a line", 2, () -> x.errorPosition());
        Due.outcome(() -> fed(x, "iamb 9").readMetre());
        Due.is("of a metre", 5, () -> x.errorPosition());
        Due.outcome(() -> fed(x, "a 0123").readException());
        Due.is("of an exception", 5, () -> x.errorPosition());
        added(x, 0, "a");
        Due.outcome(() -> fed(x, "a bc, d  ").replaceLine(0, 0));
        Due.is("of a line in place of another", 8, () -> x.errorPosition());
        Due.is("asked again", 8, () -> x.errorPosition());
        fed(x, "iamb 2").readMetre();
        excepted(added(x, 0, "b"), "b 1");
        Due.is("after texts without an error", 8, () -> x.errorPosition());
        Due.outcome(() -> x.addLine(0, 0));
        Due.is("of the empty input", 0, () -> x.errorPosition());
    }

    @Sentence(promise = 3, value = "Throws `NoSuchElementException` if no text had an error")
    static void errorPositionOfNone() {
        VerseScanner x = new VerseScanner();
        Due.fails("of a new object", ELEMENT, () -> x.errorPosition());
        fed(x, "iamb 2").readMetre();
        excepted(x, "a 1");
        for (int i = 0; i < 10; i++) {
            added(x, 0, "b");
        }
        Due.outcome(() -> fed(x, "c").addLine(0, 0));
        Due.outcome(() -> fed(x, "1").addLine(4, 0));
        Due.fails("of good texts, a full draft and no draft", ELEMENT, () -> x.errorPosition());
    }

    // ---- setMetre

    @Sentence(promise = 4, value = "Sets the metre.")
    static void setMetreSets() {
        VerseScanner x = new VerseScanner();
        x.setMetre(2, 4, 3);
        Due.is("kind", 2, () -> x.metre(0));
        Due.is("feet", 4, () -> x.metre(1));
        Due.is("caesura", 3, () -> x.metre(2));
    }

    @Sentence(promise = 4, value = "- `kind`: the kind, 0 to 3")
    static void kinds() {
        VerseScanner x = new VerseScanner();
        Due.is("kind 3", 50, () -> x.setMetre(3, 2, 0));
        Due.is("kind 0", 320, () -> x.setMetre(0, 2, 0));
        for (int wrong : new int[] {-1, 4, Integer.MIN_VALUE, Integer.MAX_VALUE}) {
            Due.fails("kind " + wrong, ARGUMENT, () -> x.setMetre(wrong, 2, 0));
        }
    }

    @Sentence(promise = 4, value = "- `feet`: the number of feet, 2 to 6")
    static void feet() {
        VerseScanner x = new VerseScanner();
        Due.is("2 feet", 50, () -> x.setMetre(0, 2, 0));
        Due.is("6 feet", 20, () -> x.setMetre(0, 6, 0));
        for (int wrong : new int[] {-1, 0, 1, 7, Integer.MIN_VALUE, Integer.MAX_VALUE}) {
            Due.fails(wrong + " feet", ARGUMENT, () -> x.setMetre(0, wrong, 0));
        }
    }

    @Sentence(promise = 4, value = "- `caesura`: the number of feet before the caesura, 1 to the number of feet minus "
            + "1, or 0 if it is missing")
    static void caesuras() {
        VerseScanner x = new VerseScanner();
        for (int i = 2; i <= 6; i++) {
            int feet = i;
            x.setMetre(1, feet, 0);
            Due.is("a caesura behind 1 of " + feet, 100 + 10 * feet, () -> x.setMetre(1, feet, 1));
            Due.is("and behind the last but one", 101 + 10 * feet, () -> x.setMetre(1, feet, feet - 1));
            Due.is("its caesura", feet - 1, () -> x.metre(2));
            for (int wrong : new int[] {-1, feet, feet + 1, Integer.MIN_VALUE, Integer.MAX_VALUE}) {
                Due.fails("a caesura behind " + wrong + " of " + feet, ARGUMENT, () -> x.setMetre(1, feet, wrong));
            }
        }
    }

    @Sentence(promise = 4, value = "Returns the previous metre: 100 times its kind, plus 10 times its feet, plus its "
            + "caesura.")
    static void previousMetre() {
        VerseScanner x = new VerseScanner();
        Due.is("the first one", 50, () -> x.setMetre(3, 6, 5));
        Due.is("the greatest one", 365, () -> x.setMetre(0, 2, 0));
        Due.is("the least one", 20, () -> x.setMetre(0, 2, 0));
        fed(x, "trochee 3/1").readMetre();
        Due.is("one that was read", 131, () -> x.setMetre(0, 5, 4));
        x.undo();
        Due.is("one that came back", 131, () -> x.setMetre(0, 5, 4));
    }

    @Sentence(promise = 4, value = "Throws `IllegalArgumentException` if a number is out of range")
    static void setMetreOutOfRange() {
        VerseScanner x = new VerseScanner();
        int[][] wrong = {{-1, 5, 0}, {4, 5, 0}, {0, 1, 0}, {0, 7, 0}, {0, 5, -1}, {0, 5, 5}, {4, 7, 7}, {-1, 1, -1}};
        for (int[] one : wrong) {
            Due.fails("setMetre " + one[0] + " " + one[1] + " " + one[2], ARGUMENT,
                    () -> x.setMetre(one[0], one[1], one[2]));
        }
        for (int end : ENDS) {
            Due.fails("setMetre of " + end, ARGUMENT, () -> x.setMetre(end, end, end));
        }
        Due.is("the metre that stays", 50, () -> x.setMetre(0, 5, 0));
        Due.is("one change", 0, () -> x.undo());
    }

    // ---- readMetre

    private static void metreFails(String text, int position) {
        VerseScanner x = new VerseScanner();
        Due.fails("readMetre of '" + text + "'", ARGUMENT, () -> fed(x, text).readMetre());
        Due.is("errorPosition of '" + text + "'", position, () -> x.errorPosition());
    }

    private static void metreReads(String text, int due) {
        VerseScanner x = new VerseScanner();
        Due.holds("readMetre of '" + text + "'", fed(x, text).readMetre() > 0);
        Due.is("the metre of '" + text + "'", due, () -> x.setMetre(0, 2, 0));
    }

    @Sentence(promise = 5, value = "Reads the input as a metre and sets it.")
    static void readMetreSets() {
        VerseScanner x = new VerseScanner();
        fed(x, "dactyl 4/2").readMetre();
        Due.is("kind", 3, () -> x.metre(0));
        Due.is("feet", 4, () -> x.metre(1));
        Due.is("caesura", 2, () -> x.metre(2));
        fed(x, "iamb 6").readMetre();
        Due.is("the caesura that is missing", 0, () -> x.metre(2));
    }

    @Sentence(promise = 5, value = "Its form is: one of the words iamb, trochee, anapest and dactyl, a blank, a digit "
            + "from 2 to 6 for the feet, then perhaps a slash and a digit for the caesura, from 1 to the number of "
            + "feet minus 1.")
    static void formOfMetre() {
        for (int kind = 0; kind < 4; kind++) {
            for (int feet = 2; feet <= 6; feet++) {
                String text = KINDS[kind] + " " + feet;
                metreReads(text, 100 * kind + 10 * feet);
                for (int caesura = 1; caesura < feet; caesura++) {
                    metreReads(text + "/" + caesura, 100 * kind + 10 * feet + caesura);
                }
                metreFails(text + "/0", text.length() + 1);
                metreFails(text + "/" + feet, text.length() + 1);
                metreFails(text + "/", text.length() + 1);
                metreFails(text + " ", text.length());
                metreFails(text + "/11", text.length() + 2);
            }
            metreFails(KINDS[kind] + " 1", KINDS[kind].length() + 1);
            metreFails(KINDS[kind] + " 7", KINDS[kind].length() + 1);
            metreFails(KINDS[kind] + "2", KINDS[kind].length());
            metreFails(KINDS[kind] + "  2", KINDS[kind].length() + 1);
        }
        metreFails("Iamb 2", 0);
        metreFails("iambs 2", 4);
        metreFails(" iamb 2", 0);
    }

    @Sentence(promise = 5, value = "The error position is the position of the first character that cannot continue a "
            + "metre, or the length of the text if it ends too early.")
    static void errorOfMetre() {
        for (String text : new String[] {"iamb 2", "trochee 3", "anapest 5", "dactyl 6"}) {
            for (int i = 0; i < text.length(); i++) {
                metreFails(text.substring(0, i), i);
                metreFails(text.substring(0, i) + "?" + text.substring(i + 1), i);
                metreFails(text.substring(0, i) + (char) 0, i);
            }
            metreFails(text + "x", text.length());
        }
        metreFails("iamb 3/3", 7);
        metreFails("iamb 3/4", 7);
        metreFails("iamb 3/", 7);
        metreFails("iamb 3//", 7);
        metreFails("iamb 3/2/", 8);
        metreFails("trocheus 3", 6);
        metreFails("iamb 33", 6);
        metreFails("iamb 2".repeat(10), 6);
    }

    @Sentence(promise = 5, value = "The input is empty afterwards, also if an exception is thrown.")
    static void inputAfterReadMetre() {
        VerseScanner x = fed(new VerseScanner(), "iamb 2");
        x.readMetre();
        Due.is("after a metre", 1, () -> x.feed('i'));
        Due.fails("a text with an error", ARGUMENT, () -> x.readMetre());
        Due.is("after an error", 1, () -> x.feed('i'));
        Due.is("the metre with what was fed since", 6, () -> fed(x, "amb 3").readMetre());
    }

    @Sentence(promise = 5, value = "Returns the number of positions of the metre.")
    static void readMetreReturnsPositions() {
        for (int kind = 0; kind < 4; kind++) {
            for (int feet = 2; feet <= 6; feet++) {
                String text = KINDS[kind] + " " + feet;
                Due.is("readMetre of " + text, FOOT_SIZES[kind] * feet, () -> fed(new VerseScanner(), text).readMetre());
            }
        }
        Due.is("readMetre with a caesura", 15, () -> fed(new VerseScanner(), "dactyl 5/4").readMetre());
    }

    @Sentence(promise = 5, value = "Throws `IllegalArgumentException` if the text has an error")
    static void readMetreOfError() {
        String[] texts = {"", "iam", "iamb", "iamb ", "iamb 1", "iamb 4/", "iamb 4/4", "iamb 22", "a day"};
        int[] errors = {0, 3, 4, 5, 5, 7, 7, 6, 1};
        for (int i = 0; i < texts.length; i++) {
            String text = texts[i];
            int error = errors[i];
            failsAlone("readMetre of '" + text + "'", ARGUMENT, () -> excepted(with("b"), "b 20"),
                    x -> fed(x, text).readMetre(), x -> erred(x, error));
        }
    }

    // ---- metre

    @Sentence(promise = 6, value = "Returns a number of the metre.")
    static void metreOfChanges() {
        VerseScanner x = new VerseScanner();
        x.save();
        fed(x, "dactyl 6/5").readMetre();
        Due.is("after readMetre", 5, () -> x.metre(2));
        x.setMetre(1, 4, 2);
        Due.is("after setMetre", 2, () -> x.metre(2));
        x.undo();
        Due.is("after undo", 5, () -> x.metre(2));
        x.restore();
        Due.is("after restore", 0, () -> x.metre(2));
    }

    @Sentence(promise = 6, value = "- `what`: 0 for the kind, 1 for the feet, 2 for the caesura, 3 for the number of "
            + "positions, 4 for the set of strong positions, as bits")
    static void numbersOfMetre() {
        int[][] metres = {{0, 2, 1, 4, 0b1010}, {1, 6, 5, 12, 0b010101010101}, {2, 3, 0, 9, 0b100100100},
            {3, 6, 1, 18, 0b001001001001001001}, {2, 6, 2, 18, 0b100100100100100100}};
        for (int[] due : metres) {
            VerseScanner x = new VerseScanner();
            x.setMetre(due[0], due[1], due[2]);
            for (int i = 0; i < 5; i++) {
                int what = i;
                Due.is("metre " + what, due[what], () -> x.metre(what));
            }
        }
    }

    @Sentence(promise = 6, value = "Throws `IllegalArgumentException` if what is out of range")
    static void metreOutOfRange() {
        for (int wrong : new int[] {-1, 5, Integer.MIN_VALUE, Integer.MAX_VALUE}) {
            Due.fails("metre " + wrong, ARGUMENT, () -> new VerseScanner().metre(wrong));
        }
    }

    // ---- setTolerance

    @Sentence(promise = 7, value = "- `tolerance`: the tolerance, 0 to 30")
    static void tolerances() {
        for (int i = 0; i <= 30; i++) {
            int tolerance = i;
            VerseScanner x = new VerseScanner();
            Due.is("tolerance " + tolerance, 6, () -> x.setTolerance(tolerance));
            Due.is("after tolerance " + tolerance, tolerance, () -> x.setTolerance(0));
        }
        VerseScanner x = marked("111211");
        x.setMetre(1, 3, 0);
        x.setTolerance(3);
        Due.is("a cost of 3 by 3", 0, () -> x.reason(0, 0));
        x.setTolerance(2);
        Due.is("a cost of 3 by 2", 4, () -> x.reason(0, 0));
    }

    @Sentence(promise = 7, value = "Returns the previous tolerance.")
    static void previousTolerance() {
        VerseScanner x = new VerseScanner();
        Due.is("the first one", 6, () -> x.setTolerance(30));
        Due.is("the next one", 30, () -> x.setTolerance(30));
        Due.is("the same one", 30, () -> x.setTolerance(0));
        Due.is("the least one", 0, () -> x.setTolerance(1));
    }

    @Sentence(promise = 7, value = "Throws `IllegalArgumentException` if it is out of range")
    static void toleranceOutOfRange() {
        VerseScanner x = new VerseScanner();
        for (int wrong : new int[] {-1, 31, Integer.MIN_VALUE, Integer.MAX_VALUE}) {
            Due.fails("tolerance " + wrong, ARGUMENT, () -> x.setTolerance(wrong));
        }
        Due.fails("no change", STATE, () -> x.undo());
        Due.is("the tolerance that stays", 6, () -> x.setTolerance(0));
    }

    // ---- readException

    private static void exceptionFails(String text, int position) {
        VerseScanner x = new VerseScanner();
        Due.fails("readException of '" + text + "'", ARGUMENT, () -> fed(x, text).readException());
        Due.is("errorPosition of '" + text + "'", position, () -> x.errorPosition());
        Due.is("exceptions after '" + text + "'", 0, () -> x.exceptions());
    }

    private static VerseScanner eightExceptions() {
        return excepted(with("a b c h i"), "a 10", "b 1", "c 1", "d 1", "e 1", "f 1", "g 1", "h 01");
    }

    @Sentence(promise = 8, value = "Reads the input as an exception, which takes the place of an earlier one for the "
            + "same word, or otherwise becomes the last one.")
    static void placeOfException() {
        VerseScanner x = excepted(with("a b ab"), "a 10", "b 20");
        Due.is("the last one", 2, () -> fed(x, "ab 22").readException());
        Due.is("in the place of the first one", 0, () -> fed(x, "a 012").readException());
        Due.is("in the place of the last one", 2, () -> fed(x, "ab 0").readException());
        Due.is("exceptions", 3, () -> x.exceptions());
        int[] marks = {12, 20, 0};
        for (int i = 0; i < 3; i++) {
            int word = i;
            Due.is("exception of word " + word, word, () -> x.word(0, 0, word, 4));
            Due.is("marks of word " + word, marks[word], () -> x.word(0, 0, word, 5));
        }
        x.dropException(0);
        Due.is("the word again, now the last one", 2, () -> fed(x, "a 1").readException());
        VerseScanner y = eightExceptions();
        Due.is("the first one of 8", 0, () -> fed(y, "a 2").readException());
        Due.is("the last one of 8", 7, () -> fed(y, "h 2").readException());
        Due.is("still 8", 8, () -> y.exceptions());
        Due.is("its marks", 2, () -> y.word(0, 0, 3, 5));
    }

    @Sentence(promise = 8, value = "Its form is: a word, a blank, and 1 to 6 digits from 0 to 2 for the marks.")
    static void formOfException() {
        for (String text : new String[] {"a 0", "a 2", "abcdefghijkl 1", "z 012012", "hmm 222222"}) {
            Due.is("readException of '" + text + "'", 0, () -> fed(new VerseScanner(), text).readException());
        }
        exceptionFails("", 0);
        exceptionFails(" 1", 0);
        exceptionFails("1", 0);
        exceptionFails("a", 1);
        exceptionFails("a1", 1);
        exceptionFails("a,", 1);
        exceptionFails("a ", 2);
        exceptionFails("a  1", 2);
        exceptionFails("a 3", 2);
        exceptionFails("a /", 2);
        exceptionFails("a 03", 3);
        exceptionFails("a 0 ", 3);
        exceptionFails("a b", 2);
        exceptionFails("A 0", 0);
        exceptionFails("a" + (char) 0 + "0", 1);
        exceptionFails("a " + (char) ('0' + 256), 2);
    }

    @Sentence(promise = 8, value = "The error position is told as for readMetre; a thirteenth letter and a seventh "
            + "digit cannot stand.")
    static void errorOfException() {
        String text = "word 0120";
        for (int i = 0; i < text.length(); i++) {
            exceptionFails(text.substring(0, i) + "?" + text.substring(i + 1), i);
        }
        for (int i = 0; i <= 5; i++) {
            exceptionFails(text.substring(0, i), i);
        }
        exceptionFails("abcdefghijklm 1", 12);
        exceptionFails("abcdefghijklmn", 12);
        exceptionFails("abcdefghijkl", 12);
        exceptionFails("abcdefghijkl ", 13);
        exceptionFails("a 0120120", 8);
        exceptionFails("a 0120123", 8);
        exceptionFails("abcdefghijkl 0120120", 19);
        exceptionFails("a 012012 ", 8);
    }

    @Sentence(promise = 8, value = "The input is empty afterwards, also if an exception is thrown.")
    static void inputAfterReadException() {
        VerseScanner x = eightExceptions();
        Due.is("after an exception", 1, () -> x.feed('a'));
        Due.fails("a text with an error", ARGUMENT, () -> x.readException());
        Due.is("after an error", 1, () -> x.feed('i'));
        Due.fails("a ninth one", STATE, () -> fed(x, " 1").readException());
        Due.is("after a ninth one", 1, () -> x.feed('a'));
    }

    @Sentence(promise = 8, value = "Returns the number of the exception, from 0.")
    static void numbersOfExceptions() {
        VerseScanner x = new VerseScanner();
        for (int i = 0; i < 8; i++) {
            String word = "b" + (char) ('a' + i);
            int number = i;
            Due.is("exception " + number, number, () -> fed(x, word + " 1").readException());
        }
        Due.is("the last one again", 7, () -> fed(x, "bh 1").readException());
        Due.is("the first one again", 0, () -> fed(x, "ba 1").readException());
    }

    @Sentence(promise = 8, value = "Throws `IllegalArgumentException` if the text has an error")
    static void readExceptionOfError() {
        String[] texts = {"", "a", "a ", "a 3", "a 0120120", "1 1"};
        int[] errors = {0, 1, 2, 2, 8, 0};
        for (int i = 0; i < texts.length; i++) {
            String text = texts[i];
            int error = errors[i];
            failsAlone("readException of '" + text + "'", ARGUMENT, () -> excepted(with("a"), "a 20"),
                    x -> fed(x, text).readException(), x -> erred(x, error));
        }
    }

    @Sentence(promise = 8, value = "Throws `IllegalStateException` if there are 8 exceptions, and none of them is for "
            + "the word")
    static void ninthException() {
        failsAlone("a ninth one", STATE, () -> eightExceptions(), x -> fed(x, "i 1").readException(), x -> { });
        failsAlone("a word that begins as one of them", STATE, () -> eightExceptions(),
                x -> fed(x, "aa 1").readException(), x -> { });
        VerseScanner x = eightExceptions();
        x.dropException(3);
        Due.is("the eighth one again", 7, () -> fed(x, "i 1").readException());
        Due.fails("the dropped one", STATE, () -> fed(x, "d 1").readException());
    }

    // ---- dropException, exceptions

    @Sentence(promise = 9, value = "Removes an exception; the numbers of all later ones decrease by 1.")
    static void dropException() {
        VerseScanner x = eightExceptions();
        x.dropException(1);
        int[] due = {0, -1, 1, 6, -1};
        for (int i = 0; i < due.length; i++) {
            int word = i;
            Due.is("exception of word " + word, due[word], () -> x.word(0, 0, word, 4));
        }
        Due.is("marks of the dropped one", 1, () -> x.word(0, 0, 1, 2));
        Due.is("marks of the first one", 10, () -> x.word(0, 0, 0, 5));
        x.dropException(0);
        Due.is("the first one without it", -1, () -> x.word(0, 0, 0, 4));
        Due.is("the last one of 6", 5, () -> x.word(0, 0, 3, 4));
        x.dropException(5);
        Due.is("the last one without it", -1, () -> x.word(0, 0, 3, 4));
        Due.is("the last mark without it", 1, () -> x.word(0, 0, 3, 5));
    }

    @Sentence(promise = 9, value = "- `exception`: the number of the exception")
    static void numbersToDrop() {
        for (int i = 0; i < 8; i++) {
            int number = i;
            Due.is("dropException " + number, number == 0 || number == 7 ? 2 : 1,
                    () -> eightExceptions().dropException(number));
        }
    }

    @Sentence(promise = 9, value = "Returns the number of its marks.")
    static void dropExceptionReturnsMarks() {
        VerseScanner x = excepted(new VerseScanner(), "a 0", "memory 20", "b 012012");
        Due.is("6 marks", 6, () -> x.dropException(2));
        Due.is("1 mark", 1, () -> x.dropException(0));
        Due.is("2 marks of a word of three syllables", 2, () -> x.dropException(0));
    }

    @Sentence(promise = 9, value = "Throws `IndexOutOfBoundsException` if there is no such exception")
    static void dropNoException() {
        VerseScanner x = eightExceptions();
        for (int wrong : new int[] {-1, 8, 9, Integer.MIN_VALUE, Integer.MAX_VALUE}) {
            Due.fails("dropException " + wrong, INDEX, () -> x.dropException(wrong));
        }
        Due.is("the last one", 2, () -> x.dropException(7));
        Due.fails("the last one again", INDEX, () -> x.dropException(7));
        Due.is("the others", 7, () -> x.exceptions());
        Due.fails("of a new object", INDEX, () -> new VerseScanner().dropException(0));
    }

    @Sentence(promise = 10, value = "Returns the number of exceptions.")
    static void exceptions() {
        VerseScanner x = new VerseScanner();
        Due.is("none", 0, () -> x.exceptions());
        for (int i = 1; i <= 8; i++) {
            excepted(x, "b" + (char) ('a' + i) + " 1");
            Due.is("exceptions", i, () -> x.exceptions());
        }
        excepted(x, "bb 2");
        Due.is("one of them again", 8, () -> x.exceptions());
        x.dropException(0);
        Due.is("without one", 7, () -> x.exceptions());
        x.undo();
        Due.is("and again with it", 8, () -> x.exceptions());
    }
}
