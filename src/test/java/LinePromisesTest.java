/** Each sentence of the promises 18 to 25, with a test of its own. */
public final class LinePromisesTest extends Scanners {
    private LinePromisesTest() {
    }

    public static void main(String[] args) throws Exception {
        Sentences.run(LinePromisesTest.class, 18, 25);
    }

    private interface Asked {
        int number(VerseScanner x, int what);
    }

    private static void numbersAre(String call, VerseScanner x, Asked asked, int... due) {
        for (int i = 0; i < due.length; i++) {
            int what = i;
            Due.is(call + " " + what, due[what], () -> asked.number(x, what));
        }
    }

    private static void failsOutOfRange(String call, int end, Asked asked) {
        VerseScanner x = marked("1111111111");
        for (int wrong : new int[] {-1, end, end + 1, Integer.MIN_VALUE, Integer.MAX_VALUE}) {
            Due.fails(call + " " + wrong, ARGUMENT, () -> asked.number(x, wrong));
        }
        for (int i = 0; i < end; i++) {
            int what = i;
            Due.holds(call + " " + what + " is a number", Due.outcome(() -> asked.number(x, what)) instanceof Integer);
        }
    }

    // ---- line

    @Sentence(promise = 18, value = "Returns a number of a line.")
    static void numberOfLine() {
        VerseScanner x = filled();
        Due.is("words of a line", 1, () -> x.line(1, 2, 0));
        Due.is("words of another one", 3, () -> x.line(3, 1, 0));
        Due.is("its syllables", 4, () -> x.line(3, 1, 1));
        excepted(x, "over 011");
        Due.is("its syllables by an exception", 5, () -> x.line(3, 1, 1));
        x.moveLine(3, 1, 0);
        Due.is("its syllables after it was moved", 5, () -> x.line(3, 0, 1));
        fed(x, "day").replaceLine(3, 0);
        Due.is("the syllables of the line in its place", 1, () -> x.line(3, 0, 1));
    }

    @Sentence(promise = 18, value = "- `what`: 0 for the number of words, 1 for the number of syllables without "
            + "elisions, 2 for the set of places for elisions, as bits, 3 for the greatest number of elisions that "
            + "can be made together, 4 for the number of commas, 5 for its class, 6 for the number of letters of its "
            + "rhyme")
    static void numbersOfLine() {
        numbersAre("line", with("b"), (x, what) -> x.line(0, 0, what), 1, 1, 0, 0, 0, 0, 1);
        numbersAre("line", with("the ocean, over a idea, a memory,"), (x, what) -> x.line(0, 0, what), 7, 12, 0b1001, 2, 3, 0, 5);
        VerseScanner ones = with("a a a a a a a a a a a a");
        numbersAre("line", ones, (x, what) -> x.line(0, 0, what), 12, 12, 0b11111111111, 6, 0, 0, 1);
        excepted(ones, "a 11");
        numbersAre("line", ones, (x, what) -> x.line(0, 0, what), 12, 24, 0b11111111111, 11, 0, 0, 1);
        excepted(ones, "a 012012");
        numbersAre("line", ones, (x, what) -> x.line(0, 0, what), 12, 72, 0b11111111111, 11, 0, 0, 1);
        VerseScanner commas = with("a, a, a, a, a, a, a, a, a, a, a, a,");
        numbersAre("line", commas, (x, what) -> x.line(0, 0, what), 12, 12, 0, 0, 12, 0, 1);
        VerseScanner classes = with("ab", "ac", "ad", "af", "ag", "ah", "aj", "ak", "al", "bcdfghjklmnp");
        numbersAre("line", classes, (x, what) -> x.line(0, 9, what), 1, 1, 0, 0, 0, 9, 12);
        numbersAre("line", with("a a a, a a a a gate"), (x, what) -> x.line(0, 0, what), 8, 8, 0b111011, 3, 1, 0, 2);
    }

    @Sentence(promise = 18, value = "Throws `IndexOutOfBoundsException` if there is no such draft or line")
    static void noLine() {
        for (int what : new int[] {-1, 0, 5, 6, 7}) {
            needsLine("line " + what, (x, draft, line) -> x.line(draft, line, what));
        }
    }

    @Sentence(promise = 18, value = "Throws `IllegalArgumentException` if what is out of range")
    static void noNumberOfLine() {
        failsOutOfRange("line", 7, (x, what) -> x.line(0, 0, what));
    }

    // ---- word

    @Sentence(promise = 19, value = "Returns a number of a word of a line.")
    static void numberOfWord() {
        VerseScanner x = filled();
        Due.is("letters of a word", 5, () -> x.word(3, 0, 1, 0));
        Due.is("letters of a word of another line", 1, () -> x.word(3, 1, 1, 0));
        Due.is("letters of a word of another draft", 3, () -> x.word(0, 0, 0, 0));
    }

    @Sentence(promise = 19, value = "- `word`: the number of the word, from 0")
    static void numbersOfWords() {
        VerseScanner x = with("a bb ccc dddd eeeee ffffff g hh iii jjjj kkkkk llllll", "a");
        int[] due = {1, 2, 3, 4, 5, 6, 1, 2, 3, 4, 5, 6};
        for (int i = 0; i < due.length; i++) {
            int word = i;
            Due.is("letters of word " + word, due[word], () -> x.word(0, 0, word, 0));
        }
        Due.fails("word 12", INDEX, () -> x.word(0, 0, 12, 0));
        Due.fails("word 1 of one", INDEX, () -> x.word(0, 1, 1, 0));
    }

    @Sentence(promise = 19, value = "- `what`: 0 for its letters, 1 for its cores, 2 for its syllables, 3 for 1 if a "
            + "comma follows it, otherwise 0, 4 for its exception, -1 without one, 5 for its marks as decimal digits, "
            + "the first one the highest")
    static void numbersOfWord() {
        VerseScanner x = with("b abababababab, silence memory", "gate, gate", "gate,");
        numbersAre("word", x, (y, what) -> y.word(0, 0, 0, what), 1, 1, 1, 0, -1, 1);
        numbersAre("word", x, (y, what) -> y.word(0, 0, 1, what), 12, 6, 6, 1, -1, 10201);
        numbersAre("word", x, (y, what) -> y.word(0, 0, 2, what), 7, 2, 2, 0, -1, 20);
        numbersAre("word", x, (y, what) -> y.word(0, 0, 3, what), 6, 3, 3, 0, -1, 201);
        numbersAre("word", x, (y, what) -> y.word(0, 1, 0, what), 4, 1, 1, 1, -1, 1);
        numbersAre("word", x, (y, what) -> y.word(0, 1, 1, what), 4, 1, 1, 0, -1, 1);
        numbersAre("word", x, (y, what) -> y.word(0, 2, 0, what), 4, 1, 1, 1, -1, 1);
        excepted(x, "silence 0", "c 1", "d 1", "e 1", "f 1", "g 1", "memory 0012", "b 222222");
        numbersAre("word", x, (y, what) -> y.word(0, 0, 0, what), 1, 1, 6, 0, 7, 222222);
        numbersAre("word", x, (y, what) -> y.word(0, 0, 2, what), 7, 2, 1, 0, 0, 0);
        numbersAre("word", x, (y, what) -> y.word(0, 0, 3, what), 6, 3, 4, 0, 6, 12);
    }

    @Sentence(promise = 19, value = "Throws `IndexOutOfBoundsException` if there is no such draft, line or word")
    static void noWord() {
        for (int what : new int[] {-1, 0, 3, 5, 6}) {
            needsLine("word " + what, (x, draft, line) -> x.word(draft, line, 0, what));
            for (int wrong : new int[] {-1, 3, 12, 32, Integer.MIN_VALUE, Integer.MAX_VALUE}) {
                Due.fails("word " + wrong, INDEX, () -> filled().word(3, 1, wrong, what));
            }
        }
    }

    @Sentence(promise = 19, value = "Throws `IllegalArgumentException` if what is out of range")
    static void noNumberOfWord() {
        failsOutOfRange("word", 6, (x, what) -> x.word(0, 0, 9, what));
    }

    // ---- rhyme

    @Sentence(promise = 20, value = "Returns a letter of the rhyme of a line.")
    static void letterOfRhyme() {
        VerseScanner x = with("a silence", "the sea");
        Due.is("the first letter", 'i', () -> x.rhyme(0, 0, 0));
        Due.is("the letters", "ilenc", () -> rhymeOf(x, 0));
        Due.is("the letters of the other line", "ea", () -> rhymeOf(x, 1));
        Due.is("the letters by an exception", "enc", () -> rhymeOf(excepted(x, "silence 2"), 0));
    }

    @Sentence(promise = 20, value = "- `position`: the position in the rhyme, from 0")
    static void positionsInRhyme() {
        String word = "abbbbbbbbbbc";
        VerseScanner x = with(word, "gate", "the", "mad");
        for (int i = 0; i < 12; i++) {
            int position = i;
            Due.is("position " + position, word.charAt(position), () -> x.rhyme(0, 0, position));
        }
        Due.fails("position 12", INDEX, () -> x.rhyme(0, 0, 12));
        Due.is("the last one before an e that is left out", 't', () -> x.rhyme(0, 1, 1));
        Due.fails("the e that is left out", INDEX, () -> x.rhyme(0, 1, 2));
        Due.is("an e that is a core", 'e', () -> x.rhyme(0, 2, 0));
        Due.fails("behind it", INDEX, () -> x.rhyme(0, 2, 1));
        Due.is("the last letter", 'd', () -> x.rhyme(0, 3, 1));
        Due.fails("behind the last letter", INDEX, () -> x.rhyme(0, 3, 2));
    }

    @Sentence(promise = 20, value = "Throws `IndexOutOfBoundsException` if there is no such draft, line or position")
    static void noLetterOfRhyme() {
        needsLine("rhyme", (x, draft, line) -> x.rhyme(draft, line, 0));
        for (int wrong : new int[] {-1, 2, 3, Integer.MIN_VALUE, Integer.MAX_VALUE}) {
            Due.fails("position " + wrong, INDEX, () -> with("gate").rhyme(0, 0, wrong));
            Due.fails("position " + wrong + " of a rhyme from within a word", INDEX, () -> with("strengthen sea").rhyme(0, 0, wrong));
        }
    }

    // ---- rhymes

    @Sentence(promise = 21, value = "Returns the kind of two lines of a draft.")
    static void kindOfLines() {
        VerseScanner x = added(with("gate", "babe", "sea"), 2, "late", "fate", "a gate");
        Due.is("kind in draft 0", 1, () -> x.rhymes(0, 0, 1));
        Due.is("kind in draft 2", 2, () -> x.rhymes(2, 0, 1));
        Due.is("kind in draft 2", 2, () -> x.rhymes(2, 2, 1));
        excepted(x, "late 0", "fate 2");
        Due.is("kind by exceptions", 2, () -> x.rhymes(2, 0, 1));
    }

    @Sentence(promise = 21, value = "- `other`: a line, possibly the same")
    static void kindOfSameLine() {
        for (int i = 0; i < 10; i++) {
            int line = i;
            Due.is("a line and itself", 3, () -> filled().rhymes(2, line, line));
        }
        Due.is("a line of one word without vowels and itself", 3, () -> with("hmm").rhymes(0, 0, 0));
    }

    @Sentence(promise = 21, value = "Returns the kind, 0 to 3.")
    static void allKinds() {
        VerseScanner x = with("a gate", "sea", "babe", "late", "gate,");
        for (int i = 0; i < 4; i++) {
            int kind = i;
            Due.is("kind " + kind, kind, () -> x.rhymes(0, 0, kind + 1));
            Due.is("kind " + kind + ", the other way", kind, () -> x.rhymes(0, kind + 1, 0));
        }
    }

    @Sentence(promise = 21, value = "Throws `IndexOutOfBoundsException` if there is no such draft or line")
    static void noRhymes() {
        needsLine("rhymes of one", (x, draft, line) -> x.rhymes(draft, line, 0));
        needsLine("rhymes of the other", (x, draft, line) -> x.rhymes(draft, 0, line));
        needsLine("rhymes of both", (x, draft, line) -> x.rhymes(draft, line, line));
    }

    // ---- cost

    @Sentence(promise = 22, value = "Returns the cost of a scan of a line.")
    static void costOfScan() {
        VerseScanner x = marked("1111", "1211");
        x.setMetre(1, 2, 0);
        Due.is("the least cost", 0, () -> x.cost(0, 0, 0, false));
        Due.is("the cost of another line", 3, () -> x.cost(0, 1, 0, false));
        x.setMetre(0, 2, 0);
        Due.is("its cost by another metre", 0, () -> x.cost(0, 1, 0, false));
        x.setTolerance(0);
        Due.is("a cost over the tolerance", 2 + 3, () -> x.cost(0, 1, 0, true));
    }

    @Sentence(promise = 22, value = "- `elisions`: the set of places at which elisions are made, as bits")
    static void setsOfCost() {
        VerseScanner x = excepted(with("a a a a a a a a a a a a"), "a 11");
        x.setMetre(2, 6, 0);
        // 24 syllables, so 5 or 6 elisions are due
        Due.is("the lowest five places", 10 + 1, () -> x.cost(0, 0, 0b11111, false));
        Due.is("the highest five places", 10 + 1, () -> x.cost(0, 0, 0b11111000000, false));
        Due.is("the highest six places", 12, () -> x.cost(0, 0, 0b11111100000, false));
        Due.fails("four places", ELEMENT, () -> x.cost(0, 0, 0b1111, false));
        Due.fails("all places", ELEMENT, () -> x.cost(0, 0, 0b11111111111, false));
        Due.fails("a place behind the last word", ARGUMENT, () -> x.cost(0, 0, 0b100000011111, false));
        VerseScanner y = excepted(with("ba i i b"), "i 20", "ba 10");
        y.setMetre(1, 3, 0);
        // 1 0 2 0 2 0 1 is one more; elided at place 0: 1 2 0 2 0 1; at place 1: 1 0 2 2 0 1
        Due.is("no place", 1, () -> y.cost(0, 0, 0, false));
        Due.is("place 0", 2 + 3 + 4 + 3 + 4, () -> y.cost(0, 0, 1, false));
        Due.is("place 1", 2 + 3 + 4, () -> y.cost(0, 0, 2, false));
    }

    @Sentence(promise = 22, value = "- `isInverted`: whether the first foot is inverted")
    static void inversionOfCost() {
        VerseScanner x = marked("2011", "1120");
        x.setMetre(0, 2, 0);
        Due.is("not inverted", 7, () -> x.cost(0, 0, 0, false));
        Due.is("inverted", 2, () -> x.cost(0, 0, 0, true));
        Due.is("not the second foot", 7, () -> x.cost(0, 1, 0, false));
        Due.is("not the second foot, inverted", 9, () -> x.cost(0, 1, 0, true));
    }

    @Sentence(promise = 22, value = "Throws `IndexOutOfBoundsException` if there is no such draft or line")
    static void costOfNoLine() {
        needsLine("cost", (x, draft, line) -> x.cost(draft, line, 0, false));
        needsLine("cost of no set", (x, draft, line) -> x.cost(draft, line, -1, true));
    }

    @Sentence(promise = 22, value = "Throws `IllegalArgumentException` if the set has other bits than those of "
            + "places, or a word that has only one syllable would be elided at both ends")
    static void costOfNoSet() {
        VerseScanner x = with("the ocean a day", "a a a a b", "b");
        int[] wrong = {2, 4, 8, 3, 1 << 11, 1 << 30, Integer.MIN_VALUE, Integer.MIN_VALUE + 1, -1, Integer.MAX_VALUE};
        for (int set : wrong) {
            for (boolean isInverted : new boolean[] {false, true}) {
                Due.fails("cost of the set " + set, ARGUMENT, () -> x.cost(0, 0, set, isInverted));
            }
        }
        for (int set : new int[] {0b11, 0b110, 0b111}) {
            Due.fails("a word elided at both ends", ARGUMENT, () -> x.cost(0, 1, set, false));
        }
        x.setMetre(1, 2, 0);
        Due.is("two words elided at one end each", 4 + 1, () -> x.cost(0, 1, 0b101, false));
        Due.fails("any set of a line without places", ARGUMENT, () -> x.cost(0, 2, 1, false));
        Due.fails("no set of it", ELEMENT, () -> x.cost(0, 2, 0, false));
    }

    @Sentence(promise = 22, value = "Throws `NoSuchElementException` if this is no scan")
    static void costOfNoScan() {
        VerseScanner x = with("b b b", "b b b b b b", "b ocean b", "b b a a b");
        x.setMetre(0, 2, 0);
        Due.fails("one syllable less before a strong end", ELEMENT, () -> x.cost(0, 0, 0, false));
        Due.fails("two syllables more", ELEMENT, () -> x.cost(0, 1, 0, true));
        Due.is("a scan", 0, () -> x.cost(0, 2, 0, false));
        x.setMetre(0, 2, 1);
        Due.fails("the caesura within a word", ELEMENT, () -> x.cost(0, 2, 0, false));
        Due.fails("an elision at the caesura", ELEMENT, () -> x.cost(0, 3, 4, false));
        Due.is("no elision at the caesura", 2, () -> x.cost(0, 3, 0, false));
        VerseScanner y = marked("11112", "11");
        y.setMetre(0, 2, 0);
        Due.fails("one more, stressed", ELEMENT, () -> y.cost(0, 0, 0, false));
        y.setMetre(1, 2, 0);
        Due.fails("two syllables less", ELEMENT, () -> y.cost(0, 1, 0, false));
    }

    // ---- scan

    @Sentence(promise = 23, value = "Returns a number of the best scan of a line.")
    static void numberOfScan() {
        VerseScanner x = marked("2011", "1111");
        x.setMetre(0, 2, 0);
        Due.is("the cost of the best scan, inverted", 2, () -> x.scan(0, 0, 0));
        Due.is("the cost of another line", 0, () -> x.scan(0, 1, 0));
        x.setMetre(1, 2, 0);
        Due.is("the cost by another metre", 0, () -> x.scan(0, 0, 0));
        x.setTolerance(0);
        x.setMetre(2, 2, 0);
        Due.fails("by a metre without scans", ELEMENT, () -> x.scan(0, 0, 0));
        VerseScanner y = marked("1112");
        y.setMetre(1, 2, 0);
        y.setTolerance(0);
        Due.is("the cost of a scan that does not fit", 3, () -> y.scan(0, 0, 0));
    }

    @Sentence(promise = 23, value = "- `what`: 0 for its cost, 1 for its elisions, as bits, 2 for 1 if its first foot "
            + "is inverted, otherwise 0, 3 for the number of its syllables, 4 for the first foot, from 0, with a "
            + "syllable that costs 3 or 4, -1 without one, 5 for the number of such syllables")
    static void numbersOfScan() {
        scanIs("1111", 0, 2, 0, 0, 0, 4, -1, 0);
        scanIs("11111", 0, 2, 1, 0, 0, 5, -1, 0);
        scanIs("111", 1, 2, 1, 0, 0, 3, -1, 0);
        scanIs("2011", 0, 2, 2, 0, 1, 4, -1, 0);
        scanIs("2111", 0, 2, 2, 0, 1, 4, -1, 0);
        scanIs("0202", 0, 2, 0, 0, 0, 4, -1, 0);
        scanIs("0212", 0, 2, 0, 0, 0, 4, -1, 0);
        scanIs("1220", 0, 2, 3 + 4, 0, 0, 4, 1, 2);
        scanIs("2211", 0, 2, 3, 0, 0, 4, 0, 1);
        scanIs("0011", 0, 2, 4, 0, 0, 4, 0, 1);
        scanIs("1121", 0, 2, 3, 0, 0, 4, 1, 1);
        scanIs("1110", 0, 2, 4, 0, 0, 4, 1, 1);
        scanIs("2220", 0, 2, 3 + 3 + 4, 0, 0, 4, 0, 3);
        scanIs("11110", 0, 2, 1, 0, 0, 5, -1, 0);
        scanIs("111111111110", 0, 6, 4, 0, 0, 12, 5, 1);
        scanIs("202020202020", 0, 6, 2 + 5 * 7, 0, 1, 12, 1, 10);
        // w w s inverted is s w w
        scanIs("220110", 2, 2, 2 + 3 + 4, 0, 1, 6, 0, 2);
        scanIs("211111", 2, 2, 2, 0, 1, 6, -1, 0);
        scanIs("121111", 2, 2, 3, 0, 0, 6, 0, 1);
        scanIs("111111110", 2, 3, 4, 0, 0, 9, 2, 1);
        VerseScanner y = marked("1112", "111", "2211");
        y.setMetre(1, 2, 0);
        for (int line : new int[] {0, 1, 2, 1, 0}) {
            Due.is("the first foot of line " + line, line == 1 ? -1 : 1 - line / 2, () -> y.scan(0, line, 4));
            Due.is("the syllables that cost of line " + line, line == 1 ? 0 : 1, () -> y.scan(0, line, 5));
        }
        VerseScanner x = excepted(with("aba aba aba aba aba aba aba aba aba aba aba aba"), "aba 11");
        x.setMetre(1, 6, 0);
        numbersAre("scan", x, (z, what) -> z.scan(0, 0, what), 22 + 1, 0b11111111111, 0, 13, -1, 0);
    }

    private static void scanIs(String marks, int kind, int feet, int... due) {
        VerseScanner x = marked(marks);
        x.setMetre(kind, feet, 0);
        numbersAre("scan of " + marks, x, (y, what) -> y.scan(0, 0, what), due);
    }

    @Sentence(promise = 23, value = "Throws `IndexOutOfBoundsException` if there is no such draft or line")
    static void scanOfNoLine() {
        for (int what : new int[] {-1, 0, 6}) {
            needsLine("scan " + what, (x, draft, line) -> x.scan(draft, line, what));
        }
    }

    @Sentence(promise = 23, value = "Throws `IllegalArgumentException` if what is out of range")
    static void noNumberOfScan() {
        failsOutOfRange("scan", 6, (x, what) -> x.scan(0, 0, what));
        for (int wrong : new int[] {-1, 6}) {
            Due.fails("scan " + wrong + " of a line without one", ARGUMENT, () -> with("a").scan(0, 0, wrong));
        }
    }

    @Sentence(promise = 23, value = "Throws `NoSuchElementException` if the line has no scan")
    static void scanOfNoScan() {
        VerseScanner x = with("b b b", "b b b b b b", "b ocean b");
        x.setMetre(0, 2, 1);
        for (int i = 0; i < 6; i++) {
            int what = i;
            Due.fails("too few", ELEMENT, () -> x.scan(0, 0, what));
            Due.fails("too many", ELEMENT, () -> x.scan(0, 1, what));
            Due.fails("no caesura", ELEMENT, () -> x.scan(0, 2, what));
        }
    }

    // ---- scans

    @Sentence(promise = 24, value = "Returns the number of different scans of a line.")
    static void numberOfScans() {
        VerseScanner x = with("b b b", "b b b b", "b b b b b b", "a a b b b", "a a a a a a", "the ocean a day");
        x.setMetre(0, 2, 0);
        int[] due = {0, 2, 0, 4, 2 * (5 + 6), 4};
        for (int i = 0; i < due.length; i++) {
            int line = i;
            Due.is("scans of line " + line, due[line], () -> x.scans(0, line));
        }
        x.setTolerance(0);
        Due.is("scans that do not fit, too", 22, () -> x.scans(0, 4));
        VerseScanner y = excepted(with("a a a a a a a a a a a a"), "a 11");
        y.setMetre(2, 6, 0);
        Due.is("scans by 5 or 6 of 11 elisions", 2 * (462 + 462), () -> y.scans(0, 0));
        y.setMetre(1, 6, 0);
        Due.is("scans by all of 11 elisions", 2, () -> y.scans(0, 0));
        excepted(y, "a 12");
        Due.is("scans whose last syllable is stressed", 0, () -> y.scans(0, 0));
        y.setMetre(1, 5, 0);
        Due.is("too many syllables", 0, () -> y.scans(0, 0));
    }

    @Sentence(promise = 24, value = "Throws `IndexOutOfBoundsException` if there is no such draft or line")
    static void scansOfNoLine() {
        needsLine("scans", (x, draft, line) -> x.scans(draft, line));
    }

    // ---- reason

    @Sentence(promise = 25, value = "Returns the reason of a line.")
    static void reasonOfLine() {
        VerseScanner x = added(with("b b b b"), 3, "b b", "b b b b");
        x.setMetre(0, 2, 0);
        Due.is("of draft 0", 0, () -> x.reason(0, 0));
        Due.is("of draft 3", 1, () -> x.reason(3, 0));
        Due.is("of its line 1", 0, () -> x.reason(3, 1));
        excepted(x, "b 0");
        x.setTolerance(7);
        Due.is("of a cost of 8 by 7", 4, () -> x.reason(0, 0));
        x.setTolerance(8);
        Due.is("of a cost of 8 by 8", 0, () -> x.reason(0, 0));
    }

    @Sentence(promise = 25, value = "Returns the reason, 0 to 4.")
    static void allReasons() {
        VerseScanner x = marked("1111", "111", "111111", "11112", "2222");
        x.setMetre(0, 2, 0);
        x.setTolerance(5);
        for (int i = 0; i < 5; i++) {
            int reason = i;
            Due.is("reason " + reason, reason, () -> x.reason(0, reason));
        }
    }

    @Sentence(promise = 25, value = "Throws `IndexOutOfBoundsException` if there is no such draft or line")
    static void reasonOfNoLine() {
        needsLine("reason", (x, draft, line) -> x.reason(draft, line));
    }
}
