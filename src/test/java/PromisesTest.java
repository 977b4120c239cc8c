/** Answers worked out by hand from the document: a method for each promise, and some for its description. */
public final class PromisesTest extends Scanners {
    private PromisesTest() {
    }

    public static void main(String[] args) {
        newObject();
        feed();
        errorPositionOfLines();
        errorPositionOfMetres();
        errorPositionOfExceptions();
        errorPositionStays();
        setMetre();
        readMetre();
        metre();
        setTolerance();
        readException();
        dropException();
        addLine();
        replaceLine();
        removeLine();
        moveLine();
        copyDraft();
        clearDraft();
        character();
        line();
        places();
        word();
        marks();
        rhyme();
        rhymeByExceptions();
        rhymes();
        classes();
        cost();
        costAtCaesura();
        costOfOneMoreOrLess();
        scan();
        scanOfEquals();
        inversions();
        scans();
        manyElisions();
        reason();
        difference();
        suits();
        account();
        meanCost();
        undo();
        undoOfEachChange();
        save();
        restore();
        wrongNumbers();
        Due.end();
    }

    private static void newObject() {
        VerseScanner x = new VerseScanner();
        for (int i = 0; i < 4; i++) {
            int draft = i;
            Due.is("lines of draft " + i, 0, () -> x.account(draft, 0));
        }
        Due.is("exceptions", 0, () -> x.exceptions());
        Due.is("kind", 0, () -> x.metre(0));
        Due.is("feet", 5, () -> x.metre(1));
        Due.is("caesura", 0, () -> x.metre(2));
        Due.fails("undo", STATE, () -> x.undo());
        Due.fails("restore", STATE, () -> x.restore());
        Due.fails("errorPosition", ELEMENT, () -> x.errorPosition());
        Due.is("feed", 1, () -> x.feed('a'));
        Due.is("the tolerance at first", 6, () -> x.setTolerance(0));
    }

    private static void feed() {
        VerseScanner x = new VerseScanner();
        for (int i = 1; i <= 60; i++) {
            int length = i;
            Due.is("feed", length, () -> x.feed(length % 2 == 0 ? ' ' : 'a'));
        }
        Due.fails("feed beyond 60", STATE, () -> x.feed('a'));
        Due.fails("addLine of 30 words", ARGUMENT, () -> x.addLine(0, 0));
        Due.is("the error of a long input", 24, () -> x.errorPosition());
        Due.is("feed behind it", 1, () -> x.feed('\uffff'));
        Due.is("feed any character", 2, () -> x.feed((char) 0));
        Due.fails("addLine of signs", ARGUMENT, () -> x.addLine(0, 0));
        Due.is("the error of signs", 0, () -> x.errorPosition());
        Due.is("a line of 60 signs", 6, () -> fed(x, "abcdefghijkl abcdefghijkl abcdefghijkl abcdefghijkl ab, abcd").addLine(0, 0));
        Due.is("its last sign", 'd', () -> x.character(0, 0, 59));
    }

    private static void lineError(String text, int position) {
        VerseScanner x = new VerseScanner();
        Due.fails("addLine of '" + text + "'", ARGUMENT, () -> fed(x, text).addLine(0, 0));
        Due.is("error of '" + text + "'", position, () -> x.errorPosition());
        Due.is("feed after '" + text + "'", 1, () -> x.feed('a'));
        Due.is("lines after '" + text + "'", 0, () -> x.account(0, 0));
    }

    private static void errorPositionOfLines() {
        lineError("", 0);
        lineError(" a", 0);
        lineError(",", 0);
        lineError("a  b", 2);
        lineError("a,b", 2);
        lineError("a,,", 2);
        lineError("a ,b", 2);
        lineError("a b ", 4);
        lineError("a, ", 3);
        lineError("aB", 1);
        lineError("a{", 1);
        lineError("a`", 1);
        lineError("abcdefghijklm", 12);
        lineError("ab abcdefghijklm", 15);
        lineError(TWELVE + " m", 24);
        lineError(TWELVE + ", m", 25);
        lineError(TWELVE + " ", 24);
        lineError(TWELVE + ", ", 25);
        lineError(TWELVE + "  ", 24);
        lineError(TWELVE + ",a", 24);
    }

    private static void metreError(String text, int position) {
        VerseScanner x = new VerseScanner();
        Due.fails("readMetre of '" + text + "'", ARGUMENT, () -> fed(x, text).readMetre());
        Due.is("error of '" + text + "'", position, () -> x.errorPosition());
        Due.is("feed after '" + text + "'", 1, () -> x.feed('a'));
        Due.fails("undo after '" + text + "'", STATE, () -> x.undo());
    }

    private static void errorPositionOfMetres() {
        metreError("", 0);
        metreError("x", 0);
        metreError("Iamb 2", 0);
        metreError("iam", 3);
        metreError("iambs 2", 4);
        metreError("iamb", 4);
        metreError("iamb ", 5);
        metreError("iamb  2", 5);
        metreError("iamb 1", 5);
        metreError("iamb 7", 5);
        metreError("iamb 22", 6);
        metreError("iamb 2/", 7);
        metreError("iamb 2/2", 7);
        metreError("iamb 6/0", 7);
        metreError("iamb 6/6", 7);
        metreError("iamb 6/55", 8);
        metreError("iamb 2 ", 6);
        metreError("trocheu 2", 6);
        metreError("anapost 2", 4);
        metreError("dactil 2", 4);
    }

    private static void exceptionError(String text, int position) {
        VerseScanner x = new VerseScanner();
        Due.fails("readException of '" + text + "'", ARGUMENT, () -> fed(x, text).readException());
        Due.is("error of '" + text + "'", position, () -> x.errorPosition());
        Due.is("feed after '" + text + "'", 1, () -> x.feed('a'));
        Due.is("exceptions after '" + text + "'", 0, () -> x.exceptions());
    }

    private static void errorPositionOfExceptions() {
        exceptionError("", 0);
        exceptionError(" 1", 0);
        exceptionError("1", 0);
        exceptionError("word", 4);
        exceptionError("word ", 5);
        exceptionError("word 3", 5);
        exceptionError("word 1/", 6);
        exceptionError("word  1", 5);
        exceptionError("word, 1", 4);
        exceptionError("word 0120121", 11);
        exceptionError("word 012012 ", 11);
        exceptionError("abcdefghijklm 1", 12);
    }

    private static void errorPositionStays() {
        VerseScanner x = with("a b");
        Due.fails("no error yet", ELEMENT, () -> x.errorPosition());
        Due.fails("addLine", ARGUMENT, () -> fed(x, "a b  c").addLine(0, 0));
        added(x, 0, "a day").save();
        x.undo();
        x.restore();
        Due.is("the error after good texts, undo and restore", 4, () -> x.errorPosition());
        Due.fails("readMetre", ARGUMENT, () -> fed(x, "iamb 9").readMetre());
        Due.is("the later error", 5, () -> x.errorPosition());
    }

    private static void setMetre() {
        VerseScanner x = new VerseScanner();
        Due.is("setMetre", 50, () -> x.setMetre(1, 2, 1));
        Due.is("setMetre", 121, () -> x.setMetre(3, 6, 5));
        Due.is("setMetre", 365, () -> x.setMetre(2, 6, 0));
        int[][] wrong = {{-1, 3, 0}, {4, 3, 0}, {0, 1, 0}, {0, 7, 0}, {0, 3, -1}, {0, 3, 3}, {0, 6, 6}};
        for (int[] one : wrong) {
            Due.fails("setMetre out of range", ARGUMENT, () -> x.setMetre(one[0], one[1], one[2]));
        }
        Due.is("the metre that stays", 260, () -> x.setMetre(0, 2, 0));
        Due.is("undo", 3, () -> x.undo());
    }

    private static void readMetre() {
        VerseScanner x = new VerseScanner();
        Due.is("iamb 2", 4, () -> fed(x, "iamb 2").readMetre());
        Due.is("trochee 6/5", 12, () -> fed(x, "trochee 6/5").readMetre());
        Due.is("the trochee", 165, () -> x.setMetre(0, 2, 0));
        Due.is("anapest 3/1", 9, () -> fed(x, "anapest 3/1").readMetre());
        Due.is("the anapest", 231, () -> x.setMetre(0, 2, 0));
        Due.is("dactyl 6", 18, () -> fed(x, "dactyl 6").readMetre());
        Due.is("the input behind it", 1, () -> x.feed('a'));
        Due.fails("the metre with an a before it", ARGUMENT, () -> fed(x, "iamb 2").readMetre());
        Due.is("the dactyl", 360, () -> x.setMetre(0, 2, 0));
    }

    private static void metre() {
        VerseScanner x = new VerseScanner();
        Due.is("positions of 5 iambs", 10, () -> x.metre(3));
        Due.is("strong ones of 5 iambs", 0b1010101010, () -> x.metre(4));
        x.setMetre(1, 3, 2);
        Due.is("kind", 1, () -> x.metre(0));
        Due.is("feet", 3, () -> x.metre(1));
        Due.is("caesura", 2, () -> x.metre(2));
        Due.is("strong ones of 3 trochees", 0b010101, () -> x.metre(4));
        x.setMetre(2, 2, 0);
        Due.is("strong ones of 2 anapests", 0b100100, () -> x.metre(4));
        x.setMetre(3, 6, 0);
        Due.is("strong ones of 6 dactyls", 0b001001001001001001, () -> x.metre(4));
        Due.is("positions of 6 dactyls", 18, () -> x.metre(3));
        Due.fails("metre(-1)", ARGUMENT, () -> x.metre(-1));
        Due.fails("metre(5)", ARGUMENT, () -> x.metre(5));
    }

    private static void setTolerance() {
        VerseScanner x = with("silver a day");
        x.setMetre(0, 2, 0);
        // 2 0 1 1 by weak strong weak strong: 7, and by an inverted first foot: 2
        Due.is("setTolerance", 6, () -> x.setTolerance(2));
        Due.is("at the tolerance", 0, () -> x.reason(0, 0));
        Due.is("setTolerance", 2, () -> x.setTolerance(1));
        Due.is("above the tolerance", 4, () -> x.reason(0, 0));
        Due.fails("setTolerance(-1)", ARGUMENT, () -> x.setTolerance(-1));
        Due.fails("setTolerance(31)", ARGUMENT, () -> x.setTolerance(31));
        Due.is("setTolerance", 1, () -> x.setTolerance(30));
        Due.is("setTolerance", 30, () -> x.setTolerance(0));
    }

    private static void readException() {
        VerseScanner x = with("ocean fire");
        Due.is("the first one", 0, () -> fed(x, "fire 20").readException());
        Due.is("the second one", 1, () -> fed(x, "ocean 012012").readException());
        Due.is("syllables", 6, () -> x.word(0, 0, 0, 2));
        Due.is("its marks", 12012, () -> x.word(0, 0, 0, 5));
        Due.is("its number", 1, () -> x.word(0, 0, 0, 4));
        Due.is("in place of an earlier one", 0, () -> fed(x, "fire 1").readException());
        Due.is("exceptions", 2, () -> x.exceptions());
        Due.is("marks now", 1, () -> x.word(0, 0, 1, 5));
        for (int i = 2; i < 8; i++) {
            int number = i;
            Due.is("exception " + i, number, () -> fed(x, "word" + (char) ('a' + number) + " 0").readException());
        }
        Due.fails("a ninth one", STATE, () -> fed(x, "other 1").readException());
        Due.fails("no error by it", ELEMENT, () -> x.errorPosition());
        Due.is("the input behind it", 1, () -> x.feed('f'));
        Due.is("a known word among 8", 0, () -> fed(x, "ire 2").readException());
        Due.fails("a ninth one with an error", ARGUMENT, () -> fed(x, "other 4").readException());
        Due.is("exceptions", 8, () -> x.exceptions());
        Due.is("not for a word that only begins so", 8, () -> {
            x.dropException(7);
            fed(x, "fires 0").readException();
            return x.exceptions();
        });
    }

    private static void dropException() {
        VerseScanner x = excepted(with("ocean fire sea"), "ocean 1", "fire 012", "sea 20");
        Due.fails("dropException(3)", INDEX, () -> x.dropException(3));
        for (int end : ENDS) {
            Due.fails("dropException", INDEX, () -> x.dropException(end));
        }
        Due.is("dropException(1)", 3, () -> x.dropException(1));
        Due.is("exceptions", 2, () -> x.exceptions());
        Due.is("an earlier one", 0, () -> x.word(0, 0, 0, 4));
        Due.is("the dropped one", -1, () -> x.word(0, 0, 1, 4));
        Due.is("a later one", 1, () -> x.word(0, 0, 2, 4));
        Due.is("dropException(1)", 2, () -> x.dropException(1));
        Due.is("dropException(0)", 1, () -> x.dropException(0));
        Due.fails("dropException(0)", INDEX, () -> x.dropException(0));
    }

    private static void addLine() {
        VerseScanner x = new VerseScanner();
        Due.is("addLine", 2, () -> fed(x, "a day,").addLine(1, 0));
        Due.is("addLine", 12, () -> fed(x, TWELVE + ",").addLine(1, 0));
        Due.is("addLine", 1, () -> fed(x, "sea").addLine(1, 1));
        Due.is("the draft", TWELVE + ",/sea/a day,", () -> texts(x, 1));
        fed(x, "end");
        Due.fails("no such draft", INDEX, () -> x.addLine(4, 0));
        Due.fails("no such draft", INDEX, () -> x.addLine(-1, 0));
        Due.fails("no such number", INDEX, () -> x.addLine(1, 4));
        Due.fails("no such number", INDEX, () -> x.addLine(1, -1));
        Due.is("the input is still there", 1, () -> x.addLine(1, 3));
        Due.is("the draft", TWELVE + ",/sea/a day,/end", () -> texts(x, 1));
        added(x, 1, "a", "a", "a", "a", "a", "a");
        Due.fails("an eleventh line with an error", ARGUMENT, () -> fed(x, "a,b").addLine(1, 10));
        Due.fails("an eleventh line", STATE, () -> fed(x, "last").addLine(1, 10));
        Due.is("the input is empty", 1, () -> x.feed('a'));
        Due.fails("no such number", INDEX, () -> x.addLine(1, 11));
        Due.is("10 lines", 10, () -> x.account(1, 0));
        Due.is("the other draft", 0, () -> x.account(0, 0));
    }

    private static void replaceLine() {
        VerseScanner x = with("a", "b", "c");
        Due.is("replaceLine", 3, () -> fed(x, "x y, z").replaceLine(0, 1));
        Due.is("the draft", "a/x y, z/c", () -> texts(x, 0));
        fed(x, "end");
        Due.fails("no such line", INDEX, () -> x.replaceLine(0, 3));
        Due.fails("no such line", INDEX, () -> x.replaceLine(0, -1));
        Due.fails("no such draft", INDEX, () -> x.replaceLine(4, 0));
        Due.is("the input is still there", 1, () -> x.replaceLine(0, 2));
        Due.fails("a text with an error", ARGUMENT, () -> fed(x, "a.").replaceLine(0, 0));
        Due.is("its error", 1, () -> x.errorPosition());
        Due.fails("the empty input", ARGUMENT, () -> x.replaceLine(0, 0));
        Due.is("the draft", "a/x y, z/end", () -> texts(x, 0));
    }

    private static void removeLine() {
        VerseScanner x = with("a", "b", "c");
        Due.fails("no such line", INDEX, () -> x.removeLine(0, 3));
        Due.fails("no such line", INDEX, () -> x.removeLine(0, -1));
        Due.fails("no such draft", INDEX, () -> x.removeLine(-1, 0));
        Due.is("removeLine", 2, () -> x.removeLine(0, 1));
        Due.is("the draft", "a/c", () -> texts(x, 0));
        Due.is("removeLine", 1, () -> x.removeLine(0, 0));
        Due.is("removeLine", 0, () -> x.removeLine(0, 0));
        Due.fails("removeLine of none", INDEX, () -> x.removeLine(0, 0));
    }

    private static void moveLine() {
        VerseScanner x = with("a", "b", "c", "d", "e");
        Due.is("forward", 3, () -> x.moveLine(0, 0, 3));
        Due.is("the draft", "b/c/d/a/e", () -> texts(x, 0));
        Due.is("back", 2, () -> x.moveLine(0, 4, 2));
        Due.is("the draft", "b/c/e/d/a", () -> texts(x, 0));
        Due.is("to its own number", 0, () -> x.moveLine(0, 1, 1));
        Due.is("which is a change", 7, () -> x.undo());
        Due.fails("to the number behind the last", INDEX, () -> x.moveLine(0, 0, 5));
        Due.fails("to -1", INDEX, () -> x.moveLine(0, 0, -1));
        Due.fails("no such line", INDEX, () -> x.moveLine(0, 5, 0));
        Due.fails("no such draft", INDEX, () -> x.moveLine(4, 0, 0));
        Due.is("the draft", "b/c/e/d/a", () -> texts(x, 0));
    }

    private static void copyDraft() {
        VerseScanner x = added(with("a", "b"), 2, "c", "d", "e");
        Due.is("copyDraft", 2, () -> x.copyDraft(0, 2));
        Due.is("the copy", "a/b", () -> texts(x, 2));
        x.removeLine(2, 0);
        Due.is("the draft does not change with it", "a/b", () -> texts(x, 0));
        Due.is("copyDraft to itself", 1, () -> x.copyDraft(2, 2));
        Due.is("itself", "b", () -> texts(x, 2));
        Due.is("copyDraft of an empty one", 0, () -> x.copyDraft(3, 0));
        Due.is("the emptied one", 0, () -> x.account(0, 0));
        Due.fails("no such draft", INDEX, () -> x.copyDraft(4, 0));
        Due.fails("no such draft", INDEX, () -> x.copyDraft(0, 4));
        Due.fails("no such draft", INDEX, () -> x.copyDraft(0, -1));
    }

    private static void clearDraft() {
        VerseScanner x = added(with("a", "b"), 3, "c");
        Due.is("clearDraft", 2, () -> x.clearDraft(0));
        Due.is("lines", 0, () -> x.account(0, 0));
        Due.is("the other draft", "c", () -> texts(x, 3));
        Due.is("clearDraft of an empty one", 0, () -> x.clearDraft(0));
        Due.is("which is a change", 4, () -> x.undo());
        Due.fails("no such draft", INDEX, () -> x.clearDraft(4));
        Due.fails("no such draft", INDEX, () -> x.clearDraft(-1));
    }

    private static void character() {
        VerseScanner x = with("a sea, x,");
        Due.is("character", 'a', () -> x.character(0, 0, 0));
        Due.is("character", ' ', () -> x.character(0, 0, 1));
        Due.is("character", ',', () -> x.character(0, 0, 5));
        Due.is("character", ',', () -> x.character(0, 0, 8));
        Due.fails("behind the last", INDEX, () -> x.character(0, 0, 9));
        Due.fails("before the first", INDEX, () -> x.character(0, 0, -1));
        Due.fails("no such line", INDEX, () -> x.character(0, 1, 0));
        Due.fails("no such draft", INDEX, () -> x.character(4, 0, 0));
    }

    private static void line() {
        VerseScanner x = with("the ocean, over a idea, a memory,");
        int[] due = {7, 12, 0b1001, 2, 3, 0, 5};
        for (int i = 0; i < due.length; i++) {
            int what = i;
            Due.is("line " + what, due[what], () -> x.line(0, 0, what));
        }
        Due.fails("line 7", ARGUMENT, () -> x.line(0, 0, 7));
        Due.fails("line -1", ARGUMENT, () -> x.line(0, 0, -1));
        Due.fails("no such line, whatever is asked", INDEX, () -> x.line(0, 1, 7));
        Due.fails("no such draft", INDEX, () -> x.line(4, 0, 0));
    }

    private static void places(String line, int set, int most) {
        VerseScanner x = with(line);
        Due.is("places of " + line, set, () -> x.line(0, 0, 2));
        Due.is("most elisions of " + line, most, () -> x.line(0, 0, 3));
    }

    private static void places() {
        places("the ocean", 1, 1);
        places("the, ocean", 0, 0);
        places("the day", 0, 0);
        places("silence over", 0, 0);
        places("by evening", 1, 1);
        places("hmm over", 0, 0);
        places("agony over a idea", 0b101, 2);
        places("a a", 1, 1);
        places("a a a", 0b11, 1);
        places("a a a a", 0b111, 2);
        places("a idea a", 0b11, 2);
        places("a a, a a a a", 0b11101, 3);
        places("ae ae ae ae ae ae ae ae ae ae ae ae", 0b11111111111, 6);
        VerseScanner x = excepted(with("a a a", "silence over"), "a 10", "silence 2");
        Due.is("places by exceptions", 0b11, () -> x.line(0, 0, 2));
        Due.is("a word of two syllables is elided at both ends", 2, () -> x.line(0, 0, 3));
        Due.is("a letter of a core by the rules, not by exceptions", 0, () -> x.line(0, 1, 2));
    }

    private static void word() {
        VerseScanner x = excepted(with("the silence, memory"), "memory 0012");
        int[][] due = {{3, 1, 1, 0, -1, 1}, {7, 2, 2, 1, -1, 20}, {6, 3, 4, 0, 0, 12}};
        for (int i = 0; i < due.length; i++) {
            for (int j = 0; j < due[i].length; j++) {
                int word = i;
                int what = j;
                Due.is("word " + word + " " + what, due[word][what], () -> x.word(0, 0, word, what));
            }
        }
        Due.fails("no such word", INDEX, () -> x.word(0, 0, 3, 0));
        Due.fails("no such word, whatever is asked", INDEX, () -> x.word(0, 0, -1, 9));
        Due.fails("no such line", INDEX, () -> x.word(0, 1, 0, 0));
        Due.fails("no such draft", INDEX, () -> x.word(4, 0, 0, 0));
        Due.fails("word 6", ARGUMENT, () -> x.word(0, 0, 0, 6));
        Due.fails("word -1", ARGUMENT, () -> x.word(0, 0, 0, -1));
        VerseScanner y = with("end,");
        Due.is("the comma at the end", 1, () -> y.word(0, 0, 0, 3));
    }

    private static void marks(String word, int cores, int marks) {
        VerseScanner x = with(word);
        Due.is("cores of " + word, cores, () -> x.word(0, 0, 0, 1));
        Due.is("marks of " + word, marks, () -> x.word(0, 0, 0, 5));
    }

    private static void marks() {
        marks("a", 1, 1);
        marks("e", 1, 1);
        marks("the", 1, 1);
        marks("hmm", 1, 1);
        marks("sky", 1, 1);
        marks("gate", 1, 1);
        marks("eye", 1, 1);
        marks("free", 1, 1);
        marks("table", 1, 1);
        marks("aloe", 2, 20);
        marks("ocean", 2, 20);
        marks("silence", 2, 20);
        marks("memory", 3, 201);
        marks("abalone", 3, 201);
        marks("abacada", 4, 201);
        marks("imagination", 5, 10201);
        marks("abababababab", 6, 10201);
    }

    private static void rhyme(String word, String rhyme) {
        VerseScanner x = with("x, " + word + ",");
        Due.is("rhyme of " + word, rhyme, () -> rhymeOf(x, 0));
    }

    private static void rhyme() {
        rhyme("sea", "ea");
        rhyme("gate", "at");
        rhyme("the", "e");
        rhyme("hmm", "hmm");
        rhyme("eye", "eye");
        rhyme("silver", "ilver");
        rhyme("silence", "ilenc");
        rhyme("memory", "emory");
        rhyme("imagination", "ination");
        VerseScanner x = with("gate");
        Due.is("rhyme", 't', () -> x.rhyme(0, 0, 1));
        Due.fails("the e that is left out", INDEX, () -> x.rhyme(0, 0, 2));
        Due.fails("no such position", INDEX, () -> x.rhyme(0, 0, -1));
        Due.fails("no such line", INDEX, () -> x.rhyme(0, 1, 0));
        Due.fails("no such draft", INDEX, () -> x.rhyme(-1, 0, 0));
    }

    private static void rhymeBy(String exception, String rhyme) {
        VerseScanner x = excepted(with("the " + exception.split(" ")[0]), exception);
        Due.is("rhyme by " + exception, rhyme, () -> rhymeOf(x, 0));
    }

    private static void rhymeByExceptions() {
        rhymeBy("memory 2", "y");
        rhymeBy("memory 101", "y");
        rhymeBy("memory 220", "ory");
        rhymeBy("memory 20000", "emory");
        rhymeBy("memory 002000", "emory");
        rhymeBy("gate 2000", "at");
        rhymeBy("silence 02", "enc");
        rhymeBy("hmm 201", "hmm");
    }

    private static void rhymes() {
        VerseScanner x = with("a gate", "so late", "a babe,", "the sea", "a gate,", "hmm", "brr", "gate a");
        int[][] due = {{0, 0, 3}, {0, 4, 3}, {0, 1, 2}, {1, 0, 2}, {0, 2, 1}, {0, 3, 0}, {5, 6, 1}, {0, 7, 1}, {5, 0, 0}};
        for (int[] one : due) {
            Due.is("rhymes " + one[0] + " " + one[1], one[2], () -> x.rhymes(0, one[0], one[1]));
        }
        Due.fails("no such line", INDEX, () -> x.rhymes(0, 0, 8));
        Due.fails("no such line", INDEX, () -> x.rhymes(0, -1, 0));
        Due.fails("no such draft", INDEX, () -> x.rhymes(4, 0, 0));
        VerseScanner y = excepted(with("memory", "by", "may my"), "memory 002");
        Due.is("rhymes by an exception", 2, () -> y.rhymes(0, 0, 1));
        Due.is("the order of vowels", 0, () -> with("mae", "mea").rhymes(0, 0, 1));
    }

    private static void classes() {
        VerseScanner x = with("gate", "sea", "late", "babe", "tea", "fate", "babe", "hmm", "brr");
        int[] due = {0, 1, 0, 2, 1, 0, 2, 3, 4};
        for (int i = 0; i < due.length; i++) {
            int line = i;
            Due.is("class of line " + i, due[line], () -> x.line(0, line, 5));
        }
        x.removeLine(0, 0);
        Due.is("class of the first line", 0, () -> x.line(0, 0, 5));
        Due.is("class of another one", 1, () -> x.line(0, 1, 5));
    }

    private static void cost() {
        VerseScanner x = with("the ocean a day", "a a a");
        x.setMetre(1, 2, 0);
        // 1 2 0 1 1, or 2 0 1 1 with the elision, by strong weak strong weak
        Due.is("without elisions", 8, () -> x.cost(0, 0, 0, false));
        Due.is("inverted", 7, () -> x.cost(0, 0, 0, true));
        Due.is("elided", 2, () -> x.cost(0, 0, 1, false));
        Due.is("elided and inverted", 11, () -> x.cost(0, 0, 1, true));
        Due.fails("no such place", ARGUMENT, () -> x.cost(0, 0, 2, false));
        Due.fails("no such place", ARGUMENT, () -> x.cost(0, 0, 3, false));
        Due.fails("no such places", ARGUMENT, () -> x.cost(0, 0, -1, false));
        Due.fails("no such place", ARGUMENT, () -> x.cost(0, 0, Integer.MIN_VALUE, false));
        Due.fails("elided at both ends", ARGUMENT, () -> x.cost(0, 1, 3, false));
        Due.fails("elided at one end is no scan, by too few", ELEMENT, () -> x.cost(0, 1, 2, false));
        Due.fails("no such line", INDEX, () -> x.cost(0, 2, -1, false));
        Due.fails("no such draft", INDEX, () -> x.cost(4, 0, 0, false));
        excepted(x, "a 10");
        // 1 1 1 0 by weak strong strong weak: 2 for the foot, 4 for the elisions, nothing else
        Due.is("a word of two syllables at both ends", 6, () -> x.cost(0, 1, 3, true));
    }

    private static void costAtCaesura() {
        VerseScanner x = with("a day a day", "a day, a day", "a silver day", "day day silver idea a", "a day a evening", "a day i ocean so");
        x.setMetre(0, 2, 1);
        Due.is("no comma", 1, () -> x.cost(0, 0, 0, false));
        Due.is("a comma", 0, () -> x.cost(0, 1, 0, false));
        Due.fails("within a word", ELEMENT, () -> x.cost(0, 2, 0, false));
        // 1 1 1 2 0 1, or 1 1 2 0 1 with an elision, whose third syllable is made of two words
        Due.fails("before two words", ELEMENT, () -> x.cost(0, 4, 4, false));
        x.setMetre(0, 2, 0);
        Due.is("which would be a scan", 2 + 1 + 3 + 4, () -> x.cost(0, 4, 4, false));
        x.setMetre(0, 3, 1);
        Due.is("before one word", 1, () -> x.cost(0, 4, 0, false));
        x.setMetre(1, 3, 1);
        Due.fails("before a word that is elided with the next one", ELEMENT, () -> x.cost(0, 5, 4, false));
        Due.is("before that word without the elision", 1 + 3 + 4, () -> x.cost(0, 5, 0, false));
        x.setMetre(1, 3, 2);
        // 1 1 2 0 2 1: the fifth syllable begins a word whose last one is elided, which does not matter
        Due.is("before a word that is elided at its end", 2 + 1, () -> x.cost(0, 3, 8, false));
        x.setMetre(0, 2, 0);
        Due.is("without a caesura no comma is needed", 0, () -> x.cost(0, 0, 0, false));
    }

    private static void costOfOneMoreOrLess() {
        VerseScanner x = excepted(with("a day a day a", "a day a", "a day a day day", "a day a silver"), "day 1");
        x.setMetre(0, 2, 0);
        Due.is("one more", 1, () -> x.cost(0, 0, 0, false));
        Due.fails("one less, the last one strong", ELEMENT, () -> x.cost(0, 1, 0, false));
        Due.is("one more with the mark 0, which costs nothing", 1, () -> x.cost(0, 3, 0, false));
        excepted(x, "day 2");
        Due.fails("one more with the mark 2", ELEMENT, () -> x.cost(0, 2, 0, false));
        x.setMetre(1, 2, 0);
        // 1 2 1 by strong weak strong
        Due.is("one less, the last one weak", 4, () -> x.cost(0, 1, 0, false));
        x.setMetre(3, 2, 0);
        Due.fails("two less", ELEMENT, () -> x.cost(0, 1, 0, false));
    }

    private static void scanIs(VerseScanner x, int line, int... due) {
        for (int i = 0; i < due.length; i++) {
            int what = i;
            Due.is("scan of line " + line + ", " + what, due[what], () -> x.scan(0, line, what));
        }
    }

    private static void scan() {
        VerseScanner x = with("the ocean a day", "the idea", "a");
        x.setMetre(1, 2, 0);
        scanIs(x, 0, 2, 1, 0, 4, -1, 0);
        // 1 2 0 by weak strong strong: 2 for the foot, 1 for one less, 4
        scanIs(x, 1, 7, 0, 1, 3, 1, 1);
        Due.fails("scan 6", ARGUMENT, () -> x.scan(0, 0, 6));
        Due.fails("scan -1", ARGUMENT, () -> x.scan(0, 0, -1));
        Due.fails("scan 6 of a line without one", ARGUMENT, () -> x.scan(0, 2, 6));
        for (int i = 0; i < 6; i++) {
            int what = i;
            Due.fails("no scan", ELEMENT, () -> x.scan(0, 2, what));
        }
        Due.fails("no such line", INDEX, () -> x.scan(0, 3, 6));
        Due.fails("no such draft", INDEX, () -> x.scan(4, 0, 0));
        VerseScanner y = with("memory memory");
        y.setMetre(0, 3, 0);
        // 2 0 1 2 0 1 by weak strong weak strong weak strong: 7; inverted, nothing but 2 for the foot
        scanIs(y, 0, 2, 0, 1, 6, -1, 0);
        y.setMetre(2, 2, 0);
        // by weak weak strong weak weak strong: 6; inverted, 2 for the foot and 3 in the second one
        scanIs(y, 0, 5, 0, 1, 6, 1, 1);
    }

    private static void scanOfEquals() {
        VerseScanner x = with("a a a a a a", "a a day over");
        x.setMetre(0, 2, 0);
        // of one elision 3, of two 4; all five places are equal, so the lowest one
        scanIs(x, 0, 3, 1, 0, 5, -1, 0);
        Due.is("scans", 2 * (5 + 6), () -> x.scans(0, 0));
        // 1 1 1 2 0, by w s w s and one more: 1; elided 1 1 2 0: more
        scanIs(x, 1, 1, 0, 0, 5, -1, 0);
        VerseScanner y = with("the over day day", "the over day day a");
        y.setMetre(1, 2, 0);
        // 1 2 0 1 1: 8, inverted 7; elided 2 0 1 1: 2
        scanIs(y, 0, 2, 1, 0, 4, -1, 0);
        Due.fails("no scan without the elision", ELEMENT, () -> y.cost(0, 1, 0, false));
        Due.is("with it, one more", 3, () -> y.cost(0, 1, 1, false));
        VerseScanner z = excepted(with("a a day day"), "a 1", "day 1");
        z.setMetre(1, 2, 0);
        // nothing: 0; inverted: 2; elided: 2 + 1; the same cost with fewer elisions comes first
        scanIs(z, 0, 0, 0, 0, 4, -1, 0);
        excepted(z, "a 12", "day 0");
        // marks 1 2 1 2 0 0, elided 1 2 2 0 0 by strong weak strong weak, one more
        Due.is("elided", 2 + 1 + 3, () -> z.cost(0, 0, 1, false));
        Due.is("elided, inverted", 2 + 2 + 1, () -> z.cost(0, 0, 1, true));
    }

    private static void inversions() {
        VerseScanner x = with("day silver", "silver day", "a a memory", "memory a a", "a a a");
        excepted(x, "day 0", "a 0");
        x.setMetre(0, 2, 0);
        x.setMetre(2, 2, 0);
        // 0 0 2 0 1 by w w s w w s: one less, the last one strong
        Due.fails("anapests have no line of one less", ELEMENT, () -> x.cost(0, 2, 0, false));
        x.setMetre(3, 2, 0);
        // 0 0 2 0 1 by s w w s w (w): 1 + 4 + 3 + 4; inverted w w s s w (w): 2 + 1 + 4
        Due.is("dactyls", 12, () -> x.cost(0, 2, 0, false));
        Due.is("inverted dactyls", 7, () -> x.cost(0, 2, 0, true));
        // 2 0 1 0 0 by s w w s w (w): 1 + 4; inverted w w s s w (w): 2 + 1 + 3 + 4
        Due.is("dactyls", 5, () -> x.cost(0, 3, 0, false));
        Due.is("inverted dactyls", 10, () -> x.cost(0, 3, 0, true));
    }

    private static void scans() {
        VerseScanner x = with("the ocean a day", "a silver", "memory");
        x.setMetre(1, 2, 0);
        Due.is("scans", 4, () -> x.scans(0, 0));
        Due.is("scans of one less", 2, () -> x.scans(0, 1));
        x.setMetre(0, 4, 0);
        Due.is("no scans", 0, () -> x.scans(0, 0));
        x.setMetre(0, 2, 1);
        Due.is("no scans by the caesura", 0, () -> x.scans(0, 1));
        Due.fails("no such line", INDEX, () -> x.scans(0, 3));
        Due.fails("no such draft", INDEX, () -> x.scans(4, 0));
    }

    private static void manyElisions() {
        VerseScanner x = with("aba aba aba aba aba aba aba aba aba aba aba aba");
        x.setMetre(0, 6, 0);
        // 24 syllables become 13 by all elisions: 2 twelve times, then 0; six of them stand on weak positions
        scanIs(x, 0, 22 + 1 + 18, 0b11111111111, 0, 13, 0, 6);
        Due.is("scans by all elisions", 2, () -> x.scans(0, 0));
        excepted(x, "aba 11");
        x.setMetre(3, 5, 0);
        // 14, 15 or 16 syllables are due, by 10, 9 or 8 elisions of 11: 21, 18 or 17
        scanIs(x, 0, 17, 0b11111111, 0, 16, -1, 0);
        Due.is("scans by 10, 9 or 8 elisions", 2 * (11 + 55 + 165), () -> x.scans(0, 0));
        x.setMetre(2, 6, 0);
        scanIs(x, 0, 11, 0b11111, 0, 19, -1, 0);
        Due.is("scans by 6 or 5 elisions", 2 * (462 + 462), () -> x.scans(0, 0));
        x.setTolerance(10);
        Due.is("the reason", 4, () -> x.reason(0, 0));
        Due.is("elisions of the draft", 5, () -> x.account(0, 6));
    }

    private static void reason() {
        VerseScanner x = with("a day a day", "a day a", "day day day day day day", "a day a a day day", "a silver day");
        x.setMetre(0, 2, 0);
        Due.is("it fits", 0, () -> x.reason(0, 0));
        Due.is("too few before a strong end", 1, () -> x.reason(0, 1));
        Due.is("too many", 2, () -> x.reason(0, 2));
        Due.is("not too many with an elision", 0, () -> x.reason(0, 3));
        x.setMetre(1, 2, 0);
        Due.is("one less before a weak end", 0, () -> x.reason(0, 1));
        x.setMetre(3, 2, 0);
        Due.is("two less", 1, () -> x.reason(0, 0));
        x.setMetre(0, 2, 1);
        Due.is("the caesura within a word", 3, () -> x.reason(0, 4));
        excepted(x, "day 2");
        x.setMetre(0, 2, 0);
        Due.is("the mark 2 of one more, even with the elision", 3, () -> x.reason(0, 3));
        x.setTolerance(0);
        Due.is("a scan that does not fit", 4, () -> {
            excepted(x, "day 0");
            return x.reason(0, 0);
        });
        Due.fails("no such line", INDEX, () -> x.reason(0, 5));
        Due.fails("no such draft", INDEX, () -> x.reason(-1, 0));
    }

    private static int differenceOf(String one, String other) {
        VerseScanner x = with(one.isEmpty() ? new String[0] : one.split("/"));
        return added(x, 1, other.isEmpty() ? new String[0] : other.split("/")).difference(0, 1);
    }

    private static void difference() {
        Due.is("of empty drafts", 0, () -> differenceOf("", ""));
        Due.is("of added lines", 6, () -> differenceOf("", "a/b c d"));
        Due.is("of removed lines", 6, () -> differenceOf("a/b", ""));
        Due.is("of commas", 0, () -> differenceOf("a b, c", "a, b c,"));
        Due.is("of a word", 1, () -> differenceOf("a b c", "a x c"));
        Due.is("of words that just one has", 2, () -> differenceOf("a b c", "a b c d e"));
        Due.is("of words that moved", 3, () -> differenceOf("a b c", "x a b"));
        Due.is("of no common words", 5, () -> differenceOf("a b c d e f g", "h i j k l m n"));
        Due.is("of a line in between", 3, () -> differenceOf("a a/b b/c c", "a a/x x x/b b/c c"));
        Due.is("of lines in another order", 6, () -> differenceOf("a b/c d e", "c d e/a b"));
        Due.is("of a line changed and one removed", 4, () -> differenceOf("a b c/d/e f", "a b x/e f"));
        VerseScanner x = with("a", "b");
        Due.is("of a draft and itself", 0, () -> x.difference(0, 0));
        Due.is("of ten lines", 10, () -> differenceOf("a/b/c/d/e/f/g/h/i/j", "k/l/m/n/o/p/q/r/s/t"));
        Due.is("of ten lines and none", 30, () -> differenceOf("a/b/c/d/e/f/g/h/i/j", ""));
        Due.fails("no such draft", INDEX, () -> x.difference(4, 0));
        Due.fails("no such draft", INDEX, () -> x.difference(0, -1));
    }

    private static void suits() {
        VerseScanner x = with("a memory", "a memory");
        x.setMetre(2, 6, 5);
        // 1 2 0 1 by two iambs: 0; no other metre has fewer
        Due.is("suits", 2, () -> x.suits(0));
        Due.is("the metre stays", 265, () -> x.setMetre(2, 6, 5));
        VerseScanner y = with("silver silver silver");
        Due.is("three trochees", 13, () -> y.suits(0));
        Due.is("of equals the lowest kind", 2, () -> with("a day a day").suits(0));
        // day has the mark 2, all others 1: iambs need an inversion for two of the lines, trochees for none
        Due.is("of equals the least costs, not the lowest kind", 12, () -> {
            VerseScanner z = excepted(new VerseScanner(), "day 2");
            return added(z, 0, "day a a a", "a a b a", "day a b a").suits(0);
        });
        Due.is("of equals the fewest feet", 2, () -> with("a b a b a").suits(0));
        Due.is("the most lines before the least costs", 13, () -> with("silver silver silver", "silver silver silver", "a memory").suits(0));
        Due.is("six dactyls", 36, () -> {
            VerseScanner z = excepted(new VerseScanner(), "b 200");
            return added(z, 0, "b b b b b b").suits(0);
        });
        VerseScanner w = with("a");
        Due.fails("no line fits", ELEMENT, () -> w.suits(0));
        Due.fails("no line at all", ELEMENT, () -> w.suits(1));
        Due.fails("no such draft", INDEX, () -> w.suits(4));
        VerseScanner v = with("silver a day");
        v.setTolerance(0);
        // 2 0 1 1 by two trochees: 0; iambs need an inversion
        Due.is("by the tolerance", 12, () -> v.suits(0));
    }

    private static void account() {
        VerseScanner x = excepted(with("a day a day", "a a a a a a", "silver day a", "gate", "day, a day"), "day 1", "so 0");
        x.setMetre(0, 2, 0);
        x.setTolerance(2);
        // costs 0, 3 with an elision, 2 by inversion; the others have no scan
        int[] due = {5, 2, 5, 2, 3, 4 + 6 + 4 + 1 + 3, 1, 5};
        for (int i = 0; i < due.length; i++) {
            int what = i;
            Due.is("account " + what, due[what], () -> x.account(0, what));
            Due.is("account of no lines " + what, 0, () -> x.account(3, what));
        }
        Due.fails("account 8", ARGUMENT, () -> x.account(0, 8));
        Due.fails("account -1", ARGUMENT, () -> x.account(0, -1));
        Due.fails("no such draft, whatever is asked", INDEX, () -> x.account(4, 8));
        Due.fails("no such draft", INDEX, () -> x.account(-1, 0));
    }

    private static void meanCost() {
        VerseScanner x = with("a day a day", "a a a a a a", "silver day a", "gate");
        x.setMetre(0, 2, 0);
        Due.is("meanCost", (float) 5 / (float) 3, () -> x.meanCost(0));
        Due.fails("no lines", ARITHMETIC, () -> x.meanCost(1));
        x.setMetre(0, 6, 0);
        Due.fails("no line has a scan", ARITHMETIC, () -> x.meanCost(0));
        Due.fails("no such draft", INDEX, () -> x.meanCost(4));
        Due.fails("no such draft", INDEX, () -> x.meanCost(-1));
    }

    private static void undo() {
        VerseScanner x = new VerseScanner();
        for (int i = 0; i < 10; i++) {
            x.setTolerance(i + 10);
        }
        Due.is("undo", 7, () -> x.undo());
        Due.is("undo", 6, () -> x.undo());
        Due.is("undo", 5, () -> x.undo());
        Due.is("a new change", 16, () -> x.setTolerance(30));
        for (int i = 5; i >= 0; i--) {
            int left = i;
            Due.is("undo", left, () -> x.undo());
        }
        Due.fails("undo of none", STATE, () -> x.undo());
        Due.is("the tolerance after two changes", 11, () -> x.setTolerance(0));
        fed(x, "a day");
        x.undo();
        Due.is("the input stays", 2, () -> x.addLine(0, 0));
        Due.fails("a call that fails is no change", ARGUMENT, () -> x.setTolerance(99));
        Due.is("so one can be undone", 0, () -> x.undo());
    }

    private static void undoes(String call, VerseScanner x, Due.Call change) {
        String before = state(x);
        Due.outcome(change);
        Due.holds(call + " changes something", !state(x).equals(before));
        Due.outcome(() -> x.undo());
        Due.is("state after the undo of " + call, before, () -> state(x));
    }

    private static void undoOfEachChange() {
        VerseScanner x = excepted(with("silver a day", "b", "c"), "silver 20");
        added(x, 1, "x");
        x.setMetre(0, 2, 0);
        undoes("setMetre", x, () -> x.setMetre(1, 3, 2));
        undoes("readMetre", x, () -> fed(x, "dactyl 4/1").readMetre());
        undoes("setTolerance", x, () -> x.setTolerance(0));
        undoes("readException", x, () -> fed(x, "b 0").readException());
        undoes("readException of a known word", x, () -> fed(x, "silver 0").readException());
        undoes("dropException", x, () -> {
            x.dropException(0);
            return fed(x, "silver 02").readException() + x.undo();
        });
        undoes("addLine", x, () -> fed(x, "new").addLine(0, 1));
        undoes("replaceLine", x, () -> fed(x, "new").replaceLine(0, 1));
        undoes("removeLine", x, () -> x.removeLine(0, 0));
        undoes("moveLine", x, () -> x.moveLine(0, 0, 2));
        undoes("copyDraft", x, () -> x.copyDraft(0, 1));
        undoes("clearDraft", x, () -> x.clearDraft(0));
    }

    private static void save() {
        VerseScanner x = added(with("a", "b"), 3, "c");
        Due.is("save", 3, () -> x.save());
        Due.is("it is no change", 2, () -> x.undo());
        Due.is("save", 2, () -> x.save());
        Due.is("the later one is restored", 2, () -> x.restore());
        Due.is("save of a new object", 0, () -> new VerseScanner().save());
    }

    private static void restore() {
        VerseScanner x = excepted(added(with("a", "b"), 3, "c"), "a 20");
        Due.fails("restore of nothing", STATE, () -> x.restore());
        x.setMetre(1, 4, 2);
        x.setTolerance(17);
        Due.is("save", 3, () -> x.save());
        x.setMetre(2, 2, 0);
        x.setTolerance(1);
        x.dropException(0);
        x.clearDraft(3);
        fed(x, "end").replaceLine(0, 0);
        fed(x, "new");
        Due.is("restore", 3, () -> x.restore());
        Due.fails("nothing can be undone", STATE, () -> x.undo());
        Due.is("the first draft", "a/b", () -> texts(x, 0));
        Due.is("the last draft", "c", () -> texts(x, 3));
        Due.is("the exception", 20, () -> x.word(0, 0, 0, 5));
        Due.is("the metre", 142, () -> x.setMetre(0, 2, 0));
        Due.is("the tolerance", 17, () -> x.setTolerance(2));
        Due.is("the input stays", 1, () -> x.addLine(1, 0));
        x.removeLine(0, 1);
        Due.is("it stays saved", 3, () -> x.restore());
        Due.is("the first draft again", "a/b", () -> texts(x, 0));
    }

    /** Wrong numbers everywhere: an exception of the document, never one of the machine's own classes. */
    private static void wrongNumbers() {
        VerseScanner x = with("a day");
        for (int end : ENDS) {
            Due.fails("addLine", INDEX, () -> x.addLine(end, end));
            Due.fails("addLine", INDEX, () -> x.addLine(0, end));
            Due.fails("replaceLine", INDEX, () -> x.replaceLine(end, 0));
            Due.fails("removeLine", INDEX, () -> x.removeLine(0, end));
            Due.fails("moveLine", INDEX, () -> x.moveLine(0, 0, end));
            Due.fails("copyDraft", INDEX, () -> x.copyDraft(0, end));
            Due.fails("clearDraft", INDEX, () -> x.clearDraft(end));
            Due.fails("character", INDEX, () -> x.character(0, 0, end));
            Due.fails("line", INDEX, () -> x.line(end, 0, 0));
            Due.fails("line", ARGUMENT, () -> x.line(0, 0, end));
            Due.fails("word", INDEX, () -> x.word(0, 0, end, 0));
            Due.fails("word", ARGUMENT, () -> x.word(0, 0, 0, end));
            Due.fails("rhyme", INDEX, () -> x.rhyme(0, 0, end));
            Due.fails("rhymes", INDEX, () -> x.rhymes(0, 0, end));
            Due.fails("cost", INDEX, () -> x.cost(0, end, 0, true));
            Due.fails("cost", ARGUMENT, () -> x.cost(0, 0, end, true));
            Due.fails("scan", ARGUMENT, () -> x.scan(0, 0, end));
            Due.fails("scans", INDEX, () -> x.scans(end, end));
            Due.fails("reason", INDEX, () -> x.reason(0, end));
            Due.fails("difference", INDEX, () -> x.difference(end, end));
            Due.fails("suits", INDEX, () -> x.suits(end));
            Due.fails("account", INDEX, () -> x.account(end, 0));
            Due.fails("account", ARGUMENT, () -> x.account(0, end));
            Due.fails("meanCost", INDEX, () -> x.meanCost(end));
            Due.fails("setMetre", ARGUMENT, () -> x.setMetre(end, end, end));
            Due.fails("setTolerance", ARGUMENT, () -> x.setTolerance(end));
            Due.fails("metre", ARGUMENT, () -> x.metre(end));
        }
        Due.is("the draft", "a day", () -> texts(x, 0));
        Due.is("only the line was a change", 0, () -> x.undo());
    }
}
