/** Each sentence of the document before its promises, with a test of its own. */
public final class DescriptionTest extends Scanners {
    private static final String[] FEET = {"ws", "sw", "wws", "sww"};

    private DescriptionTest() {
    }

    public static void main(String[] args) throws Exception {
        Sentences.run(DescriptionTest.class, 0, 0);
    }

    @Sentence("An object is used for at most 512 calls after it has been made; what later calls answer is free.")
    static void allOf512Calls() {
        VerseScanner x = new VerseScanner();
        for (int call = 1; call < 512; call++) {
            int tolerance = call % 31;
            Due.is("call " + call, call == 1 ? 6 : (call - 1) % 31, () -> x.setTolerance(tolerance));
        }
        Due.is("call 512", 7, () -> x.undo());
    }

    // ---- Texts of lines

    @Sentence("The form of a line is: word, then any number of times a blank or a comma and a blank, followed by a "
            + "word, then perhaps a comma.")
    static void formOfLine() {
        lineReads("a", 1);
        lineReads("a,", 1);
        lineReads("a b", 2);
        lineReads("a, b", 2);
        lineReads("a b,", 2);
        lineReads("a, b, c d,", 4);
        lineFails("", 0);
        lineFails(",", 0);
        lineFails(" ", 0);
        lineFails(" a", 0);
        lineFails("a ", 2);
        lineFails("a, ", 3);
        lineFails("a  b", 2);
        lineFails("a,b", 2);
        lineFails("a,,", 2);
        lineFails("a ,", 2);
        lineFails("a,  b", 3);
        lineFails("a b c,d", 6);
    }

    @Sentence("A word consists of 1 to 12 letters from a to z.")
    static void letters() {
        for (char letter = 'a'; letter <= 'z'; letter++) {
            lineReads("" + letter, 1);
        }
        lineReads("abcdefghijkl", 1);
        lineReads("mnopqrstuvwx abcdefghijkl", 2);
        lineFails("abcdefghijklm", 12);
        lineFails("a abcdefghijklm", 14);
        lineFails("a bcdefghijklmnopq", 14);
        for (int sign : new int[] {0, '`', '{', 'A', 'Z', '0', '-', 127, 'a' + 128, 'a' + 256, 'z' + 0x8000, 0xffff}) {
            lineFails("" + (char) sign, 0);
            lineFails("a" + (char) sign, 1);
        }
    }

    @Sentence("A line has at most 12 words.")
    static void twelveWords() {
        lineReads(TWELVE, 12);
        lineReads(TWELVE + ",", 12);
        lineReads("a, b, c, d, e, f, g, h, i, j, k, l,", 12);
        lineFails(TWELVE + " m", 24);
        lineFails("a, b, c, d, e, f, g, h, i, j, k, l, m", 36);
        Due.is("the twelfth word", 1, () -> with(TWELVE).word(0, 0, 11, 0));
    }

    @Sentence("The error position of a text is the position, from 0, of the first character that cannot continue a "
            + "line, or the length of the text if it ends too early; the first letter of a thirteenth word cannot "
            + "continue a line.")
    static void errorOfLine() {
        lineFails("1", 0);
        lineFails("a1 b1", 1);
        lineFails("a b1", 3);
        lineFails("", 0);
        lineFails("day ", 4);
        lineFails("day, ", 5);
        String long52 = "abcdefghijkl abcdefghijkl abcdefghijkl abcdefghijkl ";
        lineFails(long52 + "abcdefg ", 60);
        lineFails(long52 + "abcdefg?", 59);
        lineReads(long52 + "abcdefg,", 5);
        lineFails(TWELVE + " mnop", 24);
        lineFails(TWELVE + ", mnop", 25);
        lineFails(TWELVE + " 1", 24);
        lineFails(TWELVE + " ", 24);
        lineFails(TWELVE + ", ", 25);
        lineFails(TWELVE + " m?", 24);
    }

    // ---- Syllables

    @Sentence("The vowels are a, e, i, o, u and y.")
    static void vowels() {
        for (char letter = 'a'; letter <= 'z'; letter++) {
            VerseScanner x = with("ab" + letter + "b");
            Due.is("cores of ab" + letter + "b", "aeiouy".indexOf(letter) >= 0 ? 2 : 1, () -> x.word(0, 0, 0, 1));
        }
    }

    @Sentence("The cores of a word are its longest sequences of vowels; but a single e that is the last letter of the "
            + "word, and behind a letter that is no vowel, is no core if the word has another core.")
    static void cores() {
        coresAre("aeiouyaeiouy", 1);
        coresAre("abababababab", 6);
        coresAre("babababababa", 6);
        coresAre("babababababe", 5);
        coresAre("aeiouybaeiou", 2);
        coresAre("gate", 1);
        coresAre("abbe", 1);
        coresAre("gates", 2);
        coresAre("gata", 2);
        coresAre("gaty", 2);
        coresAre("gatee", 2);
        coresAre("aloe", 2);
        coresAre("abye", 2);
        coresAre("ae", 1);
        coresAre("e", 1);
        coresAre("the", 1);
        coresAre("ee", 1);
        coresAre("eve", 1);
        coresAre("bebe", 1);
    }

    @Sentence("A word without cores has one core, which is the whole word.")
    static void wordWithoutVowels() {
        coresAre("b", 1);
        coresAre("hmm", 1);
        coresAre("bcdfghjklmnp", 1);
        Due.is("the rhyme of hmm", "hmm", () -> rhymeOf(with("hmm"), 0));
        Due.is("the rhyme of twelve letters", "bcdfghjklmnp", () -> rhymeOf(with("bcdfghjklmnp"), 0));
    }

    @Sentence("A word has as many syllables as cores, if no exception says otherwise.")
    static void syllablesByRules() {
        String[] words = {"hmm", "a", "gate", "ocean", "memory", "abacada", "imagination", "abababababab"};
        int[] due = {1, 1, 1, 2, 3, 4, 5, 6};
        for (int i = 0; i < words.length; i++) {
            VerseScanner x = excepted(with(words[i]), "other 1");
            Due.is("syllables of " + words[i], due[i], () -> x.word(0, 0, 0, 2));
        }
        VerseScanner y = excepted(with("memory memories"), "memory 20");
        Due.is("syllables by an exception", 2, () -> y.word(0, 0, 0, 2));
        Due.is("syllables of another word", 3, () -> y.word(0, 0, 1, 2));
        y.undo();
        Due.is("syllables without it", 3, () -> y.word(0, 0, 0, 2));
    }

    // ---- Marks

    @Sentence("Each syllable has a mark: 2 stressed, 0 unstressed, 1 either.")
    static void meaningOfMarks() {
        VerseScanner x = marked("1120", "1121", "1110", "1111");
        x.setMetre(0, 2, 0);
        Due.is("stressed on weak, unstressed on strong", 7, () -> x.cost(0, 0, 0, false));
        Due.is("stressed on weak", 3, () -> x.cost(0, 1, 0, false));
        Due.is("unstressed on strong", 4, () -> x.cost(0, 2, 0, false));
        Due.is("either on any", 0, () -> x.cost(0, 3, 0, false));
        x.setMetre(1, 2, 0);
        Due.is("stressed on strong, unstressed on weak", 0, () -> x.cost(0, 0, 0, false));
    }

    @Sentence("The only syllable of a word has the mark 1.")
    static void markOfOne() {
        marksAre("a", 1);
        marksAre("the", 1);
        marksAre("gate", 1);
        marksAre("strengths", 1);
        marksAre("hmm", 1);
    }

    @Sentence("Of two syllables, the first one has the mark 2, the second one 0.")
    static void marksOfTwo() {
        marksAre("ocean", 20);
        marksAre("ababe", 20);
    }

    @Sentence("Of three or more, the third one from the end has the mark 2; those whose distance from it is an even "
            + "number have the mark 1, all others 0.")
    static void marksOfMore() {
        marksAre("memory", 201);
        marksAre("abacada", 201);
        marksAre("imagination", 10201);
        marksAre("abababababab", 10201);
        VerseScanner x = with("abacada", "imagination", "abababababab");
        x.setMetre(1, 2, 0);
        // 0 2 0 1 by s w s w
        Due.is("four marks", 4 + 3 + 4, () -> x.cost(0, 0, 0, false));
        // 1 0 2 0 and one more
        Due.is("five marks", 1, () -> x.cost(0, 1, 0, false));
        x.setMetre(1, 3, 0);
        // 0 1 0 2 0 1 by s w s w s w
        Due.is("six marks", 4 + 4 + 3 + 4, () -> x.cost(0, 2, 0, false));
    }

    // ---- Exceptions

    @Sentence("There are at most 8 exceptions, each for a word, with 1 to 6 marks: the word has as many syllables, "
            + "with these marks.")
    static void eightExceptions() {
        VerseScanner x = with("a memory hmm");
        excepted(x, "a 012012", "memory 0", "hmm 2222", "d 0", "e 0", "f 0", "g 0", "h 0");
        Due.is("8 exceptions", 8, () -> x.exceptions());
        Due.fails("a ninth one", STATE, () -> fed(x, "i 0").readException());
        Due.fails("no marks", ARGUMENT, () -> fed(x, "a ").readException());
        Due.fails("7 marks", ARGUMENT, () -> fed(x, "a 0120120").readException());
        int[][] due = {{6, 12012}, {1, 0}, {4, 2222}};
        for (int i = 0; i < due.length; i++) {
            int word = i;
            Due.is("syllables of word " + i, due[i][0], () -> x.word(0, 0, word, 2));
            Due.is("marks of word " + i, due[i][1], () -> x.word(0, 0, word, 5));
        }
        Due.is("syllables of the line", 11, () -> x.line(0, 0, 1));
    }

    // ---- Metres

    @Sentence("A metre has a kind, 2 to 6 feet, and a caesura, which is behind one of the feet, other than the last "
            + "one, or missing.")
    static void formOfMetre() {
        VerseScanner x = new VerseScanner();
        int previous = 50;
        for (int kind = 0; kind < 4; kind++) {
            for (int feet = 2; feet <= 6; feet++) {
                for (int caesura = 0; caesura < feet; caesura++) {
                    int[] one = {kind, feet, caesura};
                    Due.is("setMetre", previous, () -> x.setMetre(one[0], one[1], one[2]));
                    previous = 100 * kind + 10 * feet + caesura;
                }
                int[] one = {kind, feet, feet};
                Due.fails("a caesura behind the last foot", ARGUMENT, () -> x.setMetre(one[0], one[1], one[2]));
            }
            int one = kind;
            Due.fails("1 foot", ARGUMENT, () -> x.setMetre(one, 1, 0));
            Due.fails("7 feet", ARGUMENT, () -> x.setMetre(one, 7, 0));
        }
        Due.is("the last metre stays", 365, () -> x.setMetre(0, 2, 0));
    }

    @Sentence("The feet of the kinds consist of weak and strong positions: 0, iamb: weak, strong; 1, trochee: strong, "
            + "weak; 2, anapest: weak, weak, strong; 3, dactyl: strong, weak, weak.")
    static void feetOfKinds() {
        String[] names = {"iamb", "trochee", "anapest", "dactyl"};
        int[] due = {0b1010, 0b0101, 0b100100, 0b001001};
        for (int i = 0; i < 4; i++) {
            int kind = i;
            VerseScanner x = new VerseScanner();
            fed(x, names[kind] + " 2").readMetre();
            Due.is("kind of " + names[kind], kind, () -> x.metre(0));
            Due.is("strong positions of " + names[kind], due[kind], () -> x.metre(4));
        }
    }

    @Sentence("The positions of a metre are those of its feet one after the other, numbered from 0.")
    static void positions() {
        int[] counts = {12, 12, 18, 18};
        int[] strong = {0b101010101010, 0b010101010101, 0b100100100100100100, 0b001001001001001001};
        for (int i = 0; i < 4; i++) {
            int kind = i;
            VerseScanner x = new VerseScanner();
            x.setMetre(kind, 6, 0);
            Due.is("positions of kind " + kind, counts[kind], () -> x.metre(3));
            Due.is("strong ones of kind " + kind, strong[kind], () -> x.metre(4));
        }
    }

    @Sentence("At first the metre has the kind 0, 5 feet, and no caesura.")
    static void metreAtFirst() {
        VerseScanner x = new VerseScanner();
        Due.is("kind", 0, () -> x.metre(0));
        Due.is("feet", 5, () -> x.metre(1));
        Due.is("caesura", 0, () -> x.metre(2));
        Due.is("positions", 10, () -> x.metre(3));
        Due.is("strong positions", 0b1010101010, () -> x.metre(4));
        Due.is("setMetre", 50, () -> x.setMetre(0, 5, 0));
    }

    // ---- Elisions

    @Sentence("There is a place for an elision between two words that follow one another without a comma between "
            + "them, if the last letter of the first one belongs to a core by the rules above, and the first letter "
            + "of the second one is a vowel.")
    static void places() {
        placesAre("the ocean", 1);
        placesAre("the ocean,", 1);
        placesAre("the, ocean", 0);
        placesAre("silence over", 0);
        placesAre("see over", 1);
        placesAre("by ivy ye", 0b11);
        placesAre("the day", 0);
        placesAre("oceans over", 0);
        placesAre("the x ocean", 0);
        placesAre("the", 0);
        for (char vowel : "aeiouy".toCharArray()) {
            placesAre("b" + vowel + " " + vowel + "b", 1);
        }
        VerseScanner x = excepted(with("silence over"), "silence 201");
        Due.is("places by the rules, not by exceptions", 0, () -> x.line(0, 0, 2));
    }

    @Sentence("A word without vowels has no such places.")
    static void noPlacesAtWordWithoutVowels() {
        placesAre("hmm over", 0);
        placesAre("sea hmm", 0);
        placesAre("sea hmm over", 0);
        VerseScanner x = excepted(with("b a b a"), "b 20");
        Due.is("places of such a word with an exception", 0, () -> x.line(0, 0, 2));
        Due.fails("an elision there", ARGUMENT, () -> x.cost(0, 0, 1, false));
    }

    @Sentence("An elision makes one syllable of the last syllable of the first word and the first one of the second "
            + "word; its mark is the greater one of both.")
    static void elision() {
        for (int one = 0; one <= 2; one++) {
            for (int other = 0; other <= 2; other++) {
                int mark = Math.max(one, other);
                VerseScanner x = excepted(new VerseScanner(), "ba 1" + one, "ab " + other + "1");
                added(x, 0, "ba ab b");
                String elided = "the elision of " + one + " and " + other;
                x.setMetre(0, 2, 0);
                Due.is(elided + " on strong", mark == 0 ? 6 : 2, () -> x.cost(0, 0, 1, false));
                Due.is(elided + " on weak", mark == 2 ? 7 : 4, () -> x.cost(0, 0, 1, true));
            }
        }
        VerseScanner y = with("the ocean a day");
        y.setMetre(1, 2, 0);
        Due.is("syllables with the elision", 4, () -> y.scan(0, 0, 3));
    }

    @Sentence("A word that has only one syllable is never elided at both ends.")
    static void neverAtBothEnds() {
        VerseScanner x = with("a a a b b", "a idea a b b");
        x.setMetre(0, 2, 0);
        Due.is("the most elisions of a a a", 1, () -> x.line(0, 0, 3));
        Due.fails("cost of both", ARGUMENT, () -> x.cost(0, 0, 0b11, false));
        Due.is("scans by none or one", 2 * 3, () -> x.scans(0, 0));
        Due.is("the most elisions of a idea a", 2, () -> x.line(0, 1, 3));
        excepted(x, "idea 1");
        Due.is("the most elisions with one syllable", 1, () -> x.line(0, 1, 3));
        Due.fails("cost with one syllable", ARGUMENT, () -> x.cost(0, 1, 0b11, false));
        excepted(x, "a 11");
        Due.is("the most elisions with two syllables", 2, () -> x.line(0, 0, 3));
        x.setMetre(0, 3, 0);
        Due.is("cost with two syllables", 4, () -> x.cost(0, 0, 0b11, false));
    }

    @Sentence("Place k is that between word k and word k + 1, from 0.")
    static void numbersOfPlaces() {
        placesAre("a a b b b b b b b b b b", 1);
        placesAre("b a a b b b b b b b b b", 0b10);
        placesAre("b b b b b b b b b b a a", 0b10000000000);
        placesAre("a a a a a a a a a a a a", 0b11111111111);
        VerseScanner x = with("b b b b b b b b b b a a");
        x.setMetre(1, 6, 0);
        Due.is("the cost of an elision at the last place", 2 + 1, () -> x.cost(0, 0, 0b10000000000, false));
    }

    // ---- Scans

    @Sentence("A scan of a line by the metre is a choice of places for elisions and whether the first foot is "
            + "inverted, so that its positions stand in the opposite order.")
    static void inversion() {
        String[] due = {"swws", "wssw", "swwwws", "wwssww"};
        for (int kind = 0; kind < 4; kind++) {
            String usual = FEET[kind] + FEET[kind];
            for (int position = 0; position < usual.length(); position++) {
                String marks = "1".repeat(position) + "2" + "1".repeat(usual.length() - 1 - position);
                VerseScanner x = marked(marks, marks.replace('2', '0'));
                x.setMetre(kind, 2, 0);
                costsAt(x, usual.charAt(position), false);
                costsAt(x, due[kind].charAt(position), true);
            }
        }
    }

    /** What one syllable, stressed in line 0 and unstressed in line 1, costs on its position. */
    private static void costsAt(VerseScanner x, char position, boolean isInverted) {
        int inverted = isInverted ? 2 : 0;
        Due.is("stressed on " + position, inverted + (position == 'w' ? 3 : 0), () -> x.cost(0, 0, 0, isInverted));
        Due.is("unstressed on " + position, inverted + (position == 's' ? 4 : 0), () -> x.cost(0, 1, 0, isInverted));
    }

    @Sentence("The syllables that result take the positions in their order.")
    static void orderOfSyllables() {
        for (int foot = 0; foot < 6; foot++) {
            VerseScanner x = marked("11".repeat(foot) + "12" + "11".repeat(5 - foot));
            x.setMetre(1, 6, 0);
            x.setTolerance(0);
            int due = foot;
            Due.is("the cost of a stress in foot " + foot, 3, () -> x.cost(0, 0, 0, false));
            Due.is("the foot", foot == 0 ? -1 : due, () -> x.scan(0, 0, 4));
        }
        // elided 2 0 1 1, by s w s w
        VerseScanner y = with("the ocean a day");
        y.setMetre(1, 2, 0);
        Due.is("the cost behind an elision", 2, () -> y.cost(0, 0, 1, false));
    }

    @Sentence("Either there are as many syllables as positions; or one more, whose mark is not 2, and which takes no "
            + "position; or one less, if the last position is weak, which stays empty.")
    static void numberOfSyllables() {
        VerseScanner x = marked("11", "111", "1111", "11110", "11111", "11112", "111111", "1111111");
        x.setMetre(0, 2, 0);
        scansAre(x, 0, 0, 2, 2, 2, 0, 0, 0);
        x.setMetre(1, 2, 0);
        scansAre(x, 0, 2, 2, 2, 2, 0, 0, 0);
        x.setMetre(2, 2, 0);
        scansAre(x, 0, 0, 0, 0, 0, 0, 2, 2);
        x.setMetre(3, 2, 0);
        scansAre(x, 0, 0, 0, 2, 2, 2, 2, 2);
    }

    private static void scansAre(VerseScanner x, int... due) {
        for (int i = 0; i < due.length; i++) {
            int line = i;
            Due.is("scans of line " + line, due[line], () -> x.scans(0, line));
        }
    }

    @Sentence("If the metre has a caesura, the syllable that takes the position behind it has to be the first one of "
            + "a word, and without an elision.")
    static void caesura() {
        VerseScanner x = excepted(new VerseScanner(), "ab 11", "ba 11");
        added(x, 0, "b b b b", "b ocean b", "b b a ab", "b a e b b", "b b ba e");
        x.setMetre(0, 2, 1);
        Due.is("the first one of a word", 1, () -> x.cost(0, 0, 0, false));
        Due.fails("the second one of a word", ELEMENT, () -> x.cost(0, 1, 0, false));
        Due.fails("an elision on it", ELEMENT, () -> x.cost(0, 2, 0b100, false));
        Due.is("an elision before it", 2 + 1, () -> x.cost(0, 3, 0b10, false));
        Due.is("an elision behind it", 2 + 1, () -> x.cost(0, 4, 0b100, false));
        scansAre(x, 2, 0, 2, 4, 4);
        x.setMetre(0, 2, 0);
        scansAre(x, 2, 2, 4, 4, 4);
        Due.is("the second one of a word without a caesura", 0, () -> x.cost(0, 1, 0, false));
        Due.is("an elision there without a caesura", 2, () -> x.cost(0, 2, 0b100, false));
        VerseScanner y = excepted(with("m m m m m m m m m m m m", "m mm mm mm mm mm m"), "mm 11");
        for (int i = 1; i < 6; i++) {
            int caesura = i;
            y.setMetre(1, 6, caesura);
            Due.is("words behind foot " + caesura, 1, () -> y.cost(0, 0, 0, false));
            Due.fails("no word behind foot " + caesura, ELEMENT, () -> y.cost(0, 1, 0, false));
        }
    }

    // ---- Costs

    @Sentence("The cost of a scan is the sum of: 2 for each elision; 2 if the first foot is inverted; 1 if there is "
            + "one syllable more or one less than positions; 1 if there is no comma at the caesura; 3 for each "
            + "syllable with the mark 2 that takes a weak position; and 4 for each syllable with the mark 0 that "
            + "takes a strong position.")
    static void costs() {
        VerseScanner x = with("a e b a e b", "b b b b b", "b b b", "b b, b b");
        x.setMetre(0, 2, 0);
        Due.is("two elisions", 4, () -> x.cost(0, 0, 0b1001, false));
        Due.is("one elision, one syllable more", 3, () -> x.cost(0, 0, 0b1000, false));
        Due.is("two elisions, inverted", 6, () -> x.cost(0, 0, 0b1001, true));
        Due.is("one syllable more", 1, () -> x.cost(0, 1, 0, false));
        Due.is("nothing", 0, () -> x.cost(0, 3, 0, false));
        x.setMetre(1, 2, 0);
        Due.is("one syllable less", 1, () -> x.cost(0, 2, 0, false));
        x.setMetre(0, 2, 1);
        Due.is("a comma at the caesura", 0, () -> x.cost(0, 3, 0, false));
        Due.is("no comma at the caesura, one syllable more", 2, () -> x.cost(0, 1, 0, false));
        VerseScanner y = marked("202020202020", "020202020202");
        y.setMetre(0, 6, 0);
        Due.is("stressed on all weak, unstressed on all strong", 6 * 3 + 6 * 4, () -> y.cost(0, 0, 0, false));
        Due.is("all of them but in the first foot", 2 + 5 * 3 + 5 * 4, () -> y.cost(0, 0, 0, true));
        Due.is("stressed on strong, unstressed on weak", 0, () -> y.cost(0, 1, 0, false));
        Due.is("all of them in the first foot", 2 + 3 + 4, () -> y.cost(0, 1, 0, true));
        y.setMetre(0, 6, 3);
        Due.is("and no comma", 1 + 6 * 3 + 6 * 4, () -> y.cost(0, 0, 0, false));
    }

    @Sentence("The best scan is that with the least cost, of several that with the fewest elisions, of several that "
            + "with the lower set of places, as bits, where bit k stands for place k, of several that without an "
            + "inverted foot.")
    static void bestScan() {
        // 2 0 1 1 by s w s w, against one more, 1 2 0 1 1: 8, or inverted 7
        bestIs("trochee 2", "a i m m", 2, 1, 0);
        bestIs("trochee 2", "m i m m", 7, 0, 1);
        // 1 1 2 0 1 1, against one more, 1 1 2 0 0 1 1: 5
        bestIs("trochee 3", "m m i e m m", 2, 0b100, 0);
        // 0 1 1 2 by s w s w: 7, inverted 5; elided 0 1 2 by s w s: 7, inverted 5
        bestIs("trochee 2", "n y o", 5, 0, 1);
        // one elision, the last: 0 2 1 1 2 2; two, the first ones: 0 2 2 0 2; both inverted, at a cost of 7
        bestIs("trochee 3", "u y o u", 7, 0b100, 1);
        // 1 0 2 1 and one more, inverted: 6; elided 1 2 1 0, not inverted: 6
        bestIs("iamb 2", "a u a e", 6, 0, 1);
        // of six syllables one elision is due, at any of five places that are all alike
        bestIs("iamb 2", "a a a a a a", 3, 1, 0);
        // inverted 2 1 0 2 1 0 0 by the set 3, not inverted 2 2 0 1 2 1 0 by the set 20: both cost 11
        bestIs("iamb 3", "o i a u a e n", 11, 0b11, 1);
    }

    private static void bestIs(String metre, String line, int cost, int set, int inverted) {
        VerseScanner x = excepted(with(line), "e 0", "i 20", "n 0", "o 2", "u 02", "y 11");
        fed(x, metre).readMetre();
        Due.is("cost of the best scan of " + line, cost, () -> x.scan(0, 0, 0));
        Due.is("its elisions", set, () -> x.scan(0, 0, 1));
        Due.is("its inversion", inverted, () -> x.scan(0, 0, 2));
    }

    // ---- Fitting

    @Sentence("A line fits if it has a scan whose cost is at most the tolerance, which is from 0 to 30 and at first 6.")
    static void tolerance() {
        VerseScanner x = marked("112121", "112011", "111111", "1111111");
        x.setMetre(0, 3, 0);
        Due.is("6 at first", 0, () -> x.reason(0, 0));
        Due.is("7 at first", 4, () -> x.reason(0, 1));
        Due.is("the tolerance at first", 6, () -> x.setTolerance(0));
        Due.is("0 by 0", 0, () -> x.reason(0, 2));
        Due.is("1 by 0", 4, () -> x.reason(0, 3));
        Due.fails("-1", ARGUMENT, () -> x.setTolerance(-1));
        Due.fails("31", ARGUMENT, () -> x.setTolerance(31));
        VerseScanner y = excepted(marked("112020202021"), "f 11");
        y.setMetre(0, 6, 0);
        Due.is("five stressed on weak, four unstressed on strong", 5 * 3 + 4 * 4, () -> y.scan(0, 0, 0));
        Due.is("one more, three stressed on weak, five unstressed on strong", 1 + 3 * 3 + 5 * 4, () -> {
            fed(y, "f s n s n s n m n m n m").addLine(0, 1);
            return y.scan(0, 1, 0);
        });
        y.setTolerance(30);
        Due.is("31 by 30", 4, () -> y.reason(0, 0));
        Due.is("30 by 30", 0, () -> y.reason(0, 1));
        y.setTolerance(29);
        Due.is("30 by 29", 4, () -> y.reason(0, 1));
    }

    @Sentence("The reason of a line is 0 if it fits; 1 if it has too few syllables for any scan even without "
            + "elisions; 2 if it has too many even with as many elisions as can be made together; 3 if it has no "
            + "scan, but neither of these is the case; 4 if it has a scan and does not fit.")
    static void reasons() {
        VerseScanner x = with("b b b", "b b b b", "b b b b b", "b b b b b b", "b b a a b b", "a a a b b b b", "a a a a b b");
        added(x, 0, "b b", "b b a a");
        x.setMetre(0, 2, 0);
        reasonsAre(x, 1, 0, 0, 2, 0, 2, 0, 1, 0);
        x.setMetre(1, 2, 0);
        reasonsAre(x, 0, 0, 0, 2, 0, 2, 0, 1, 0);
        x.setTolerance(0);
        reasonsAre(x, 4, 0, 4, 2, 4, 2, 4, 1, 0);
        VerseScanner y = with("b ocean b", "a ocean b");
        y.setMetre(0, 2, 1);
        reasonsAre(y, 3, 3);
    }

    private static void reasonsAre(VerseScanner x, int... due) {
        for (int i = 0; i < due.length; i++) {
            int line = i;
            Due.is("reason of line " + line, due[line], () -> x.reason(0, line));
        }
    }

    // ---- Rhymes

    @Sentence("The syllable of rhyme of a line is the last one of its last word with the mark 2, or the last one if "
            + "there is none.")
    static void syllableOfRhyme() {
        rhymeIs("memory 220", "ory");
        rhymeIs("memory 222", "y");
        rhymeIs("memory 202", "y");
        rhymeIs("memory 211", "emory");
        rhymeIs("memory 200", "emory");
        rhymeIs("memory 101", "y");
        rhymeIs("memory 000", "y");
        rhymeIs("sea 0", "ea");
        Due.is("a mark of an earlier word", "ay", () -> rhymeOf(excepted(with("memory day"), "memory 2"), 0));
    }

    @Sentence("The rhyme of a line consists of the letters of its last word from a core on, where this core is as "
            + "many cores before the last one as the syllable of rhyme is before the last syllable, or the first core "
            + "if there are not so many; a last e that is no core is left out.")
    static void lettersOfRhyme() {
        rhymeIs("memory 20", "ory");
        rhymeIs("memory 2", "y");
        rhymeIs("memory 200", "emory");
        rhymeIs("memory 2000", "emory");
        rhymeIs("memory 0200", "emory");
        rhymeIs("memory 200000", "emory");
        rhymeIs("other 1", "memory", "emory");
        rhymeIs("other 1", "imagination", "ination");
        rhymeIs("other 1", "gate", "at");
        rhymeIs("other 1", "silence", "ilenc");
        rhymeIs("other 1", "free", "ee");
        rhymeIs("other 1", "the", "e");
        rhymeIs("other 1", "abbbbbbbbbbb", "abbbbbbbbbbb");
        rhymeIs("silence 02", "enc");
    }

    private static void rhymeIs(String exception, String due) {
        rhymeIs(exception, exception.split(" ")[0], due);
    }

    private static void rhymeIs(String exception, String word, String due) {
        Due.is("rhyme of " + word + " by " + exception, due, () -> rhymeOf(excepted(with("the " + word), exception), 0));
    }

    @Sentence("Elisions do not matter for it.")
    static void rhymeWithElision() {
        VerseScanner x = with("b b be over", "b b be, over", "be over", "over");
        x.setMetre(1, 2, 0);
        Due.is("the best scan elides the last word", 0b100, () -> x.scan(0, 0, 1));
        for (int i = 0; i < 4; i++) {
            int line = i;
            Due.is("the rhyme of line " + line, "over", () -> rhymeOf(x, line));
        }
        Due.is("of a word that is all in the elision", "i", () -> rhymeOf(with("be i"), 0));
    }

    @Sentence("The kind of two lines is 3 if their last words are the same; 2 if their rhymes are the same; 1 if the "
            + "vowels of their rhymes are the same, in their order; otherwise 0.")
    static void kindsOfRhymes() {
        kindIs("a gate", "the gate,", 3);
        kindIs("gate", "gates", 0);
        kindIs("gate a", "gate the", 0);
        kindIs("gate", "late", 2);
        kindIs("gate", "gat", 2);
        kindIs("gate", "at", 2);
        kindIs("gate", "babe", 1);
        kindIs("at", "att", 1);
        kindIs("bat", "tab", 1);
        kindIs("mae", "mea", 0);
        kindIs("my", "mi", 0);
        kindIs("a", "aa", 0);
        kindIs("silver", "winter", 1);
        kindIs("silver", "wintry", 0);
        kindIs("silver", "liver", 1);
        kindIs("river", "liver", 2);
    }

    private static void kindIs(String one, String other, int due) {
        VerseScanner x = with(one, other);
        Due.is("kind of " + one + " and " + other, due, () -> x.rhymes(0, 0, 1));
        Due.is("kind of " + other + " and " + one, due, () -> x.rhymes(0, 1, 0));
    }

    @Sentence("The class of a line in a draft is 0 for the first line; for any other one it is that of the first line "
            + "before it of which the kind with it is 2 or 3, or otherwise the lowest number that no line before it "
            + "has as its class.")
    static void classes() {
        classesAre(with("sea"), 0);
        classesAre(with("sea", "sea"), 0, 0);
        classesAre(with("sea", "tea", "day", "hay", "tea", "gate", "late"), 0, 0, 1, 1, 0, 2, 2);
        // of one kind with the first line only by its vowels
        classesAre(with("gate", "babe", "late", "babe"), 0, 1, 0, 1);
        classesAre(with("ab", "ac", "ad", "af", "ag", "ah", "aj", "ak", "al", "am"), 0, 1, 2, 3, 4, 5, 6, 7, 8, 9);
        classesAre(with("ab", "ac", "ad", "af", "ag", "ah", "aj", "ak", "al", "bal"), 0, 1, 2, 3, 4, 5, 6, 7, 8, 8);
    }

    private static void classesAre(VerseScanner x, int... due) {
        for (int i = 0; i < due.length; i++) {
            int line = i;
            Due.is("class of " + text(x, 0, line) + ", line " + line, due[line], () -> x.line(0, line, 5));
        }
    }

    // ---- Drafts

    @Sentence("There are 4 drafts, numbered from 0, at first empty, each of which is a list of at most 10 lines, "
            + "numbered from 0.")
    static void fourDrafts() {
        VerseScanner x = new VerseScanner();
        for (int i = 0; i < 4; i++) {
            int draft = i;
            Due.is("lines of draft " + draft, 0, () -> x.account(draft, 0));
            for (int j = 0; j < 10; j++) {
                String line = "x" + (char) ('a' + j);
                int at = j;
                Due.is("line " + at, 1, () -> fed(x, line).addLine(draft, at));
            }
            Due.fails("an eleventh line", STATE, () -> fed(x, "b").addLine(draft, 10));
            Due.is("draft " + draft, "xa/xb/xc/xd/xe/xf/xg/xh/xi/xj", () -> texts(x, draft));
        }
        Due.fails("draft 4", INDEX, () -> x.account(4, 0));
        Due.fails("draft -1", INDEX, () -> x.account(-1, 0));
    }

    @Sentence("The difference of two drafts is the least sum by which the first one becomes the second one: 3 for "
            + "each line that is removed or added, and for each line that becomes another one, where the lines keep "
            + "their order, the number of places of words at which they have different words, or just one of them has "
            + "one, but at most 5; commas do not matter.")
    static void differences() {
        differenceIs("", "", 0);
        differenceIs("", "a", 3);
        differenceIs("", "a/b/c/d/e/f/g/h/i/j", 30);
        differenceIs("a b", "a b", 0);
        differenceIs("a b, c", "a, b c,", 0);
        differenceIs("a b c", "a x c", 1);
        differenceIs("a b c", "x b", 2);
        differenceIs("a b c d", "w x y z", 4);
        differenceIs("a b c d e", "v w x y z", 5);
        differenceIs("a b c d e f", "u v w x y z", 5);
        differenceIs("a", "a b c d e f g", 5);
        differenceIs("a b c d e f g h i j k l", "m n o p q r s t u v w x", 5);
        differenceIs("a b c", "x a b c", 4);
        differenceIs("a b/c d e", "c d e/a b", 6);
        differenceIs("a b c d e f/g g g g g g", "g g g g g g", 3);
        differenceIs("a/b/c/d/e/f/g/h/i/j", "b/c/d/e/f/g/h/i/j/k", 6);
        differenceIs("a/b/c/d/e/f/g/h/i/j", "k/l/m/n/o/p/q/r/s/t", 10);
    }

    private static void differenceIs(String one, String other, int due) {
        VerseScanner x = added(new VerseScanner(), 1, one.isEmpty() ? new String[0] : one.split("/"));
        added(x, 3, other.isEmpty() ? new String[0] : other.split("/"));
        Due.is("difference of " + one + " and " + other, due, () -> x.difference(1, 3));
        Due.is("difference of " + other + " and " + one, due, () -> x.difference(3, 1));
    }

    // ---- Changes

    /** With nothing to undo, a metre iamb 2, the exception a 20, the lines a and b in draft 0, and draft 1 empty. */
    private static VerseScanner unchanged() {
        VerseScanner x = excepted(with("a", "b"), "a 20");
        x.setMetre(0, 2, 0);
        x.save();
        x.restore();
        return x;
    }

    @Sentence("The changes are the successful calls of setMetre, readMetre, setTolerance, readException, "
            + "dropException, addLine, replaceLine, removeLine, moveLine, copyDraft and clearDraft; also if nothing "
            + "is different afterwards.")
    static void changes() {
        isChange("setMetre", true, x -> x.setMetre(0, 2, 0));
        isChange("readMetre", true, x -> fed(x, "iamb 2").readMetre());
        isChange("setTolerance", true, x -> x.setTolerance(6));
        isChange("readException", true, x -> fed(x, "a 20").readException());
        isChange("dropException", true, x -> x.dropException(0));
        isChange("addLine", true, x -> fed(x, "c").addLine(0, 0));
        isChange("replaceLine", true, x -> fed(x, "a").replaceLine(0, 0));
        isChange("removeLine", true, x -> x.removeLine(0, 0));
        isChange("moveLine", true, x -> x.moveLine(0, 1, 1));
        isChange("copyDraft", true, x -> x.copyDraft(0, 0));
        isChange("clearDraft", true, x -> x.clearDraft(1));
        isChange("feed", false, x -> x.feed('a'));
        isChange("save", false, x -> x.save());
        isChange("restore", false, x -> x.restore());
        isChange("a question", false, x -> asked(x));
        isChange("setMetre that fails", false, x -> x.setMetre(4, 2, 0));
        isChange("readMetre that fails", false, x -> x.readMetre());
        isChange("setTolerance that fails", false, x -> x.setTolerance(31));
        isChange("readException that fails", false, x -> x.readException());
        isChange("dropException that fails", false, x -> x.dropException(1));
        isChange("addLine that fails", false, x -> x.addLine(0, 0));
        isChange("replaceLine that fails", false, x -> x.replaceLine(0, 0));
        isChange("removeLine that fails", false, x -> x.removeLine(0, 2));
        isChange("moveLine that fails", false, x -> x.moveLine(0, 0, 2));
        isChange("copyDraft that fails", false, x -> x.copyDraft(0, 4));
        isChange("clearDraft that fails", false, x -> x.clearDraft(4));
        isChange("undo that fails", false, x -> x.undo());
    }

    private static void isChange(String call, boolean isOne, Change made) {
        VerseScanner x = unchanged();
        Due.outcome(() -> {
            made.on(x);
            return "";
        });
        if (isOne) {
            Due.is("undo of " + call, 0, () -> x.undo());
        } else {
            Due.fails("undo of " + call, STATE, () -> x.undo());
        }
    }

    private static void asked(VerseScanner x) {
        state(x);
        x.exceptions();
        x.line(0, 0, 5);
        x.rhyme(0, 0, 0);
        x.rhymes(0, 0, 1);
        x.scans(0, 0);
        x.reason(0, 0);
        x.difference(0, 1);
        x.account(0, 7);
        Due.outcome(() -> x.cost(0, 0, 0, true));
        Due.outcome(() -> x.scan(0, 0, 0));
        Due.outcome(() -> x.suits(0));
        Due.outcome(() -> x.meanCost(0));
        Due.outcome(() -> x.errorPosition());
    }

    @Sentence("The latest 8 of them can be undone.")
    static void eightChanges() {
        VerseScanner x = new VerseScanner();
        for (int i = 1; i <= 8; i++) {
            x.setTolerance(i);
        }
        undoesAll(x, 8);
        Due.is("the tolerance before all 8", 6, () -> x.setTolerance(0));
        VerseScanner y = new VerseScanner();
        for (int i = 1; i <= 9; i++) {
            y.setTolerance(i);
        }
        undoesAll(y, 8);
        Due.is("the tolerance before the last 8 of 9", 1, () -> y.setTolerance(0));
        VerseScanner z = new VerseScanner();
        for (int i = 1; i <= 30; i++) {
            z.setTolerance(i);
        }
        undoesAll(z, 8);
        Due.is("the tolerance before the last 8 of 30", 22, () -> z.setTolerance(0));
    }

    private static void undoesAll(VerseScanner x, int count) {
        for (int i = count - 1; i >= 0; i--) {
            int left = i;
            Due.is("undo", left, () -> x.undo());
        }
        Due.fails("undo of no change", STATE, () -> x.undo());
    }

    // ---- Exceptions of methods

    /** With changes to undo, a snapshot that is another state, and the input "end", after an error at 2. */
    private static VerseScanner full() {
        VerseScanner x = excepted(with("the ocean a day", "b a a"), "a 20", "day 0");
        x.setTolerance(3);
        x.save();
        Due.outcome(() -> fed(x, "ab1").addLine(0, 0));
        added(x, 1, "over");
        x.setMetre(1, 2, 0);
        return fed(x, "end");
    }

    @Sentence("A method that throws an exception leaves everything unchanged, except that the input is treated as "
            + "described.")
    static void failuresChangeNothing() {
        failsAlone("setMetre", ARGUMENT, x -> x.setMetre(0, 7, 0));
        failsAlone("metre", ARGUMENT, x -> x.metre(5));
        failsAlone("setTolerance", ARGUMENT, x -> x.setTolerance(31));
        failsAlone("dropException", INDEX, x -> x.dropException(2));
        failsAlone("addLine to no draft", INDEX, x -> x.addLine(4, 0));
        failsAlone("addLine to no number", INDEX, x -> x.addLine(0, 3));
        failsAlone("replaceLine", INDEX, x -> x.replaceLine(0, 2));
        failsAlone("removeLine", INDEX, x -> x.removeLine(0, 2));
        failsAlone("moveLine of no line", INDEX, x -> x.moveLine(0, 2, 0));
        failsAlone("moveLine to no line", INDEX, x -> x.moveLine(0, 0, 2));
        failsAlone("copyDraft of no draft", INDEX, x -> x.copyDraft(4, 0));
        failsAlone("copyDraft to no draft", INDEX, x -> x.copyDraft(0, 4));
        failsAlone("clearDraft", INDEX, x -> x.clearDraft(4));
        failsAlone("character", INDEX, x -> x.character(0, 0, 15));
        failsAlone("line", ARGUMENT, x -> x.line(0, 0, 7));
        failsAlone("word", INDEX, x -> x.word(0, 0, 4, 0));
        failsAlone("rhyme", INDEX, x -> x.rhyme(0, 0, 2));
        failsAlone("rhymes", INDEX, x -> x.rhymes(0, 0, 2));
        failsAlone("cost", ARGUMENT, x -> x.cost(0, 0, 2, false));
        failsAlone("cost of no scan", ELEMENT, x -> x.cost(1, 0, 0, false));
        failsAlone("scan", ARGUMENT, x -> x.scan(0, 0, 6));
        failsAlone("scan of no scan", ELEMENT, x -> x.scan(1, 0, 0));
        failsAlone("scans", INDEX, x -> x.scans(0, 2));
        failsAlone("reason", INDEX, x -> x.reason(0, 2));
        failsAlone("difference", INDEX, x -> x.difference(0, 4));
        failsAlone("suits", ELEMENT, x -> x.suits(2));
        failsAlone("account", ARGUMENT, x -> x.account(0, 8));
        failsAlone("meanCost", ARITHMETIC, x -> x.meanCost(1));
        failsAlone("errorPosition", ELEMENT, () -> with("a"), x -> x.errorPosition(), x -> { });
        failsAlone("undo", STATE, () -> fed(new VerseScanner(), "a"), x -> x.undo(), x -> { });
        failsAlone("restore", STATE, () -> with("a"), x -> x.restore(), x -> { });
        failsAlone("feed", STATE, () -> fed(new VerseScanner(), "a ".repeat(30)), x -> x.feed('b'), x -> { });
    }

    private static void failsAlone(String call, Class<? extends Exception> due, Change made) {
        failsAlone(call, due, DescriptionTest::full, made, x -> { });
    }

    @Sentence("The exceptions of a method are checked in the order in which they are listed.")
    static void orderOfExceptions() {
        VerseScanner x = excepted(with(), "b 0", "c 0", "d 0", "e 0", "f 0", "g 0", "h 0", "i 0");
        added(x, 0, "a", "a", "a", "a", "a", "a", "a", "a", "a", "a");
        Due.fails("a text with an error, for a ninth exception", ARGUMENT, () -> fed(x, "j").readException());
        Due.fails("no draft, a text with an error", INDEX, () -> fed(x, "1").addLine(4, 0));
        Due.fails("no number, a text with an error, a full draft", INDEX, () -> x.addLine(0, 11));
        Due.fails("a text with an error, a full draft", ARGUMENT, () -> x.addLine(0, 0));
        Due.fails("no line, a text with an error", INDEX, () -> fed(x, "1").replaceLine(0, 10));
        Due.fails("no line, no number of it", INDEX, () -> x.line(0, 10, 7));
        Due.fails("no word, no number of it", INDEX, () -> x.word(0, 0, 1, 6));
        Due.fails("no line, no set", INDEX, () -> x.cost(0, 10, -1, false));
        Due.fails("no set, no scan", ARGUMENT, () -> x.cost(0, 0, 1, false));
        Due.fails("no line, no number of a scan", INDEX, () -> x.scan(0, 10, 6));
        Due.fails("no number of a scan, no scan", ARGUMENT, () -> x.scan(0, 0, 6));
        Due.fails("no draft, no account", INDEX, () -> x.account(4, 8));
    }

    // ---- In doubt

    @Sentence("If there is one syllable more than positions, the last one is the one that takes none, and it costs "
            + "nothing by its mark.")
    static void oneMore() {
        VerseScanner x = marked("11110", "11111", "21111", "01111", "11112");
        for (int i = 0; i < 2; i++) {
            x.setMetre(i, 2, 0);
            int kind = i;
            Due.is("the last one unstressed, kind " + kind, 1, () -> x.cost(0, 0, 0, false));
            Due.is("the last one either, kind " + kind, 1, () -> x.cost(0, 1, 0, false));
            Due.is("the first one stressed, kind " + kind, kind == 0 ? 4 : 1, () -> x.cost(0, 2, 0, false));
            Due.is("the first one unstressed, kind " + kind, kind == 0 ? 1 : 5, () -> x.cost(0, 3, 0, false));
            Due.fails("the last one stressed, kind " + kind, ELEMENT, () -> x.cost(0, 4, 0, false));
            Due.is("no syllable that costs, kind " + kind, 0, () -> x.scan(0, 0, 5));
        }
        VerseScanner y = excepted(with("b b b ba e", "b b b ba o", "b b b bo e"), "ba 10", "e 0", "o 2", "bo 12");
        y.setMetre(0, 2, 0);
        Due.is("the last one an elision of 0 and 0", 3, () -> y.cost(0, 0, 8, false));
        Due.fails("the last one an elision of 0 and 2", ELEMENT, () -> y.cost(0, 1, 8, false));
        Due.fails("the last one an elision of 2 and 0", ELEMENT, () -> y.cost(0, 2, 8, false));
    }

    @Sentence("The syllable behind the caesura is made of one word alone, so that a word of one syllable that is "
            + "elided with the next one cannot stand there; the comma at the caesura is the one behind the word "
            + "before it.")
    static void syllableBehindCaesura() {
        VerseScanner x = excepted(new VerseScanner(), "ba 11");
        added(x, 0, "b b a e b", "b b ba e", "b b, b b", "b, b b b", "b b b, b", "b b b b,", "b ba, b b", "b, ba b b");
        x.setMetre(0, 2, 1);
        Due.fails("a word of one syllable, elided with the next one", ELEMENT, () -> x.cost(0, 0, 4, false));
        Due.is("the same without the elision", 1 + 1, () -> x.cost(0, 0, 0, false));
        Due.is("a word of two syllables, elided with the next one", 2 + 1, () -> x.cost(0, 1, 4, false));
        Due.is("a comma before it", 0, () -> x.cost(0, 2, 0, false));
        Due.is("a comma one word earlier", 1, () -> x.cost(0, 3, 0, false));
        Due.is("a comma behind it", 1, () -> x.cost(0, 4, 0, false));
        Due.is("a comma at the end", 1, () -> x.cost(0, 5, 0, false));
        x.setMetre(3, 2, 1);
        // the fourth of five syllables is behind the caesura, and one syllable is missing
        Due.is("a comma behind a word of two syllables before it", 1, () -> x.cost(0, 6, 0, false));
        Due.is("a comma before that word", 1 + 1, () -> x.cost(0, 7, 0, false));
    }

    @Sentence("A line that has one syllable less than positions, of which the last one is strong, has too few; one "
            + "that has one more even with all elisions that can be made, the last one with the mark 2, has the "
            + "reason 3.")
    static void oneLessOrMore() {
        VerseScanner x = marked("111", "11112", "111112", "11111");
        x.setMetre(0, 2, 0);
        reasonsAre(x, 1, 3, 2, 0);
        x.setMetre(1, 2, 0);
        reasonsAre(x, 0, 3, 2, 0);
        VerseScanner y = marked("11111", "111111", "1111112", "1111111");
        y.setMetre(2, 2, 0);
        reasonsAre(y, 1, 0, 3, 0);
        VerseScanner z = excepted(with("b a e b b o", "b a e b b"), "o 2");
        z.setMetre(0, 2, 0);
        reasonsAre(z, 3, 0);
    }

    @Sentence("The rhyme of a word whose exception has more syllables than it has cores begins at its first core, if "
            + "there are not so many before the last one.")
    static void rhymeOfLongException() {
        rhymeIs("gate 20", "at");
        rhymeIs("gate 200000", "at");
        rhymeIs("ocean 20000", "ocean");
        rhymeIs("ocean 00200", "ocean");
        rhymeIs("ocean 00020", "ocean");
        rhymeIs("ocean 00002", "ean");
        rhymeIs("hmm 20", "hmm");
        rhymeIs("strengths 0200", "engths");
    }

    @Sentence("Rhymes without vowels have the same vowels.")
    static void rhymesWithoutVowels() {
        kindIs("hmm", "brr", 1);
        kindIs("b", "c", 1);
        kindIs("hmm", "brr a", 0);
        kindIs("hmm", "hmm", 3);
    }

    @Sentence("A line that is moved to its own number changes no number, but is a change.")
    static void movedToItself() {
        VerseScanner x = with("a", "b", "c");
        for (int i = 0; i < 3; i++) {
            int line = i;
            Due.is("moveLine", 0, () -> x.moveLine(0, line, line));
        }
        Due.is("the draft", "a/b/c", () -> texts(x, 0));
        undoesAll(x, 6);
        Due.is("after the undo of all", 0, () -> x.account(0, 0));
    }

    @Sentence("After 10 changes of which 3 were undone, and a new one, 6 can be undone.")
    static void tenChanges() {
        VerseScanner x = new VerseScanner();
        for (int i = 1; i <= 10; i++) {
            x.setTolerance(i);
        }
        for (int i = 7; i >= 5; i--) {
            int left = i;
            Due.is("undo", left, () -> x.undo());
        }
        Due.is("a new one", 7, () -> x.setTolerance(30));
        undoesAll(x, 6);
        Due.is("the tolerance before those", 2, () -> x.setTolerance(0));
    }

    @Sentence("Marks of 0 at the beginning are not seen in the decimal number.")
    static void leadingMarks() {
        String[] marks = {"0", "00", "01", "000000", "000001", "010000", "100000", "222222"};
        for (String one : marks) {
            VerseScanner x = excepted(with("b"), "b " + one);
            Due.is("the number of " + one, Integer.valueOf(one), () -> x.word(0, 0, 0, 5));
            Due.is("the syllables of " + one, one.length(), () -> x.word(0, 0, 0, 2));
        }
        marksAre("abacada", 201);
    }

    private static void coresAre(String word, int due) {
        Due.is("cores of " + word, due, () -> with(word).word(0, 0, 0, 1));
    }

    private static void marksAre(String word, int due) {
        Due.is("marks of " + word, due, () -> with(word).word(0, 0, 0, 5));
    }

    private static void placesAre(String line, int due) {
        Due.is("places of " + line, due, () -> with(line).line(0, 0, 2));
    }

    private static void lineReads(String text, int words) {
        VerseScanner x = new VerseScanner();
        Due.is("addLine of '" + text + "'", words, () -> fed(x, text).addLine(0, 0));
        Due.fails("errorPosition after '" + text + "'", ELEMENT, () -> x.errorPosition());
    }

    private static void lineFails(String text, int position) {
        VerseScanner x = new VerseScanner();
        Due.fails("addLine of '" + text + "'", ARGUMENT, () -> fed(x, text).addLine(0, 0));
        Due.is("errorPosition of '" + text + "'", position, () -> x.errorPosition());
    }
}
