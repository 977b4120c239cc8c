/** Each sentence of the promises 26 to 32, with a test of its own. */
public final class WholePromisesTest extends Scanners {
    private WholePromisesTest() {
    }

    public static void main(String[] args) throws Exception {
        Sentences.run(WholePromisesTest.class, 26, 32);
    }

    // ---- difference

    @Sentence(promise = 26, value = "Returns the difference of two drafts.")
    static void difference() {
        VerseScanner x = filled();
        // 1, 3, 10 and 2 lines: sea; a b c; a to j; the ocean, over a day
        int[][] due = {{0, 7, 28, 5}, {7, 0, 21, 3 + 2 + 3}, {28, 21, 0, 24 + 2 + 3}, {5, 8, 29, 0}};
        for (int i = 0; i < 4; i++) {
            for (int j = 0; j < 4; j++) {
                int one = i;
                int other = j;
                Due.is("difference of " + one + " and " + other, due[one][other], () -> x.difference(one, other));
            }
        }
        x.clearDraft(0);
        Due.is("difference to an empty draft", 30, () -> x.difference(2, 0));
        x.clearDraft(1);
        Due.is("difference of empty drafts", 0, () -> x.difference(0, 1));
    }

    @Sentence(promise = 26, value = "Throws `IndexOutOfBoundsException` if there is no such draft")
    static void differenceOfNoDraft() {
        needsDraft("difference of one", (x, draft) -> x.difference(draft, 0));
        needsDraft("difference of the other", (x, draft) -> x.difference(0, draft));
        needsDraft("difference of both", (x, draft) -> x.difference(draft, draft));
    }

    // ---- suits

    private static void suit(int due, int tolerance, String... lines) {
        VerseScanner x = marked(lines);
        x.setTolerance(tolerance);
        Due.is("suits of " + String.join(" ", lines) + " by " + tolerance, due, () -> x.suits(0));
    }

    @Sentence(promise = 27, value = "Finds the metre that suits a draft best: of all metres without a caesura that by "
            + "which the most lines fit, of several that with the least sum of the costs of the best scans of the "
            + "lines that fit, of several that with the lowest kind, of several that with the fewest feet.")
    static void suits() {
        // the most lines: two of six syllables, before one of four without any cost
        suit(13, 6, "202020", "202020", "0202");
        suit(2, 6, "0202", "0202", "202020");
        suit(13, 0, "0202", "202020", "202020");
        // three lines of four: by trochees 0, 0, 1; by iambs 0, 0, and no scan of three syllables
        suit(12, 6, "1111", "1111", "111");
        // the least sum: by iambs 2, for an inversion; by trochees 0
        suit(12, 6, "2011");
        suit(2, 6, "1102");
        // the sum: by iambs 2, 2, 2 and 0; by trochees 0, 0, 0 and 4
        suit(12, 6, "2111", "2111", "2111", "1101");
        // only the costs of lines that fit: by trochees 0, and 8, which does not fit; by iambs 2, and no scan
        suit(12, 6, "2011", "220");
        // the lowest kind: without any cost by both iambs and trochees, of 4 syllables, or of 6 by all kinds
        suit(2, 6, "1111");
        suit(3, 6, "111111");
        suit(22, 0, "002002");
        suit(32, 0, "200200");
        // the fewest feet: 5 syllables are one more than those of two trochees, one less than those of three
        suit(12, 6, "21111");
        suit(13, 6, "2111111");
        // the greatest metres
        suit(6, 0, "020202020202");
        suit(16, 0, "202020202020");
        VerseScanner x = excepted(new VerseScanner(), "wws 002", "sww 200");
        added(x, 0, "wws wws wws wws wws wws");
        added(x, 1, "sww sww sww sww sww sww");
        Due.is("six anapests", 26, () -> x.suits(0));
        Due.is("six dactyls", 36, () -> x.suits(1));
        VerseScanner y = added(marked("2011"), 1, "m m m m");
        Due.is("one draft", 12, () -> y.suits(0));
        Due.is("another one, which the first one does not touch", 2, () -> y.suits(1));
    }

    @Sentence(promise = 27, value = "The metre that is set stays.")
    static void metreStays() {
        VerseScanner x = marked("202020");
        x.setMetre(2, 6, 5);
        Due.is("suits", 13, () -> x.suits(0));
        Due.fails("suits of no line", ELEMENT, () -> x.suits(1));
        Due.is("the metre", 265, () -> x.setMetre(2, 6, 5));
        Due.is("reason by it", 1, () -> x.reason(0, 0));
        // the caesura of the metre that is set does not count
        VerseScanner y = with("b ocean b");
        y.setMetre(0, 2, 1);
        Due.is("suits of a line without a scan by the metre", 2, () -> y.suits(0));
    }

    @Sentence(promise = 27, value = "Returns 10 times the kind, plus the feet.")
    static void numberOfMetre() {
        VerseScanner x = excepted(new VerseScanner(), "ws 02", "sw 20", "wws 002", "sww 200");
        x.setTolerance(0);
        String[] words = {"ws", "sw", "wws", "sww"};
        for (int kind = 0; kind < 4; kind++) {
            for (int feet = 2; feet <= 6; feet++) {
                x.clearDraft(0);
                added(x, 0, (words[kind] + " ").repeat(feet).trim());
                Due.is(feet + " feet of " + words[kind], 10 * kind + feet, () -> x.suits(0));
            }
        }
    }

    @Sentence(promise = 27, value = "Throws `IndexOutOfBoundsException` if there is no such draft")
    static void suitsOfNoDraft() {
        needsDraft("suits", (x, draft) -> x.suits(draft));
    }

    @Sentence(promise = 27, value = "Throws `NoSuchElementException` if no line fits any of these metres")
    static void suitsOfNoLine() {
        VerseScanner x = marked("11", "2222");
        Due.fails("no lines", ELEMENT, () -> x.suits(1));
        Due.is("a line with a cost of 6, and one with too few syllables", 2, () -> x.suits(0));
        x.setTolerance(5);
        Due.fails("a line that does not fit, and one with too few syllables", ELEMENT, () -> x.suits(0));
        Due.is("a line of three syllables", 12, () -> marked("111").suits(0));
        Due.fails("a line of two syllables", ELEMENT, () -> marked("11").suits(0));
        VerseScanner y = excepted(with("b", "b b"), "b 111111");
        added(y, 1, "b b b c c");
        added(y, 2, "b b b c");
        y.setTolerance(30);
        Due.fails("20 syllables", ELEMENT, () -> y.suits(1));
        Due.is("19 syllables", 26, () -> y.suits(2));
        Due.is("6 and 12 syllables", 3, () -> y.suits(0));
    }

    // ---- account

    /** Costs 0, 3 with an elision, 2 by an inversion, none, and 5 by two elisions; the last one rhymes with the first. */
    private static VerseScanner accounted() {
        VerseScanner x = excepted(with("a day a day", "a a a a a a", "silver day a", "gate", "b a a b a a may"), "day 1", "so 0");
        x.setMetre(0, 2, 0);
        return x;
    }

    @Sentence(promise = 28, value = "Returns an account of a draft.")
    static void accountOfDraft() {
        VerseScanner x = filled();
        int[] lines = {1, 3, 10, 2};
        int[] syllables = {1, 3, 10, 3 + 4};
        for (int i = 0; i < 4; i++) {
            int draft = i;
            Due.is("lines of draft " + draft, lines[draft], () -> x.account(draft, 0));
            Due.is("syllables of draft " + draft, syllables[draft], () -> x.account(draft, 5));
        }
        for (int i = 0; i < 8; i++) {
            int what = i;
            Due.is("account " + what + " of an empty draft", 0, () -> accounted().account(3, what));
        }
    }

    @Sentence(promise = 28, value = "- `what`: 0 for the number of lines, 1 for the number of lines that fit, 2 for "
            + "the sum of the costs of the best scans of all lines that have one, 3 for the number of lines without a "
            + "scan, 4 for the number of classes, 5 for the sum of all syllables without elisions, 6 for the sum of "
            + "the elisions in all best scans, 7 for the number of words that have exceptions")
    static void accounts() {
        VerseScanner x = accounted();
        // by iamb 2: 0; 3; 2; no scan; 7 syllables, of which two elisions leave 5: 4 and one more
        int[] due = {5, 4, 0 + 3 + 2 + 5, 1, 3, 4 + 6 + 4 + 1 + 7, 0 + 1 + 0 + 2, 2 + 1};
        accountsAre(x, due);
        x.setTolerance(5);
        accountsAre(x, due);
        x.setTolerance(4);
        due[1] = 3;
        accountsAre(x, due);
        x.setTolerance(0);
        due[1] = 1;
        accountsAre(x, due);
        excepted(x, "a 1", "gate 11111");
        // the line of five syllables now has a scan: one more
        accountsAre(x, 5, 1, 10 + 1, 0, 3, 22 + 4, 3, 3 + 2 + 6 + 1 + 1 + 4);
        x.setMetre(3, 6, 0);
        accountsAre(x, 5, 0, 0, 5, 3, 26, 0, 17);
        VerseScanner y = with("a", "a", "a", "a", "a", "a", "a", "a", "a", "a");
        accountsAre(y, 10, 0, 0, 10, 1, 10, 0, 0);
        VerseScanner z = with("ab", "ac", "ad", "af", "ag", "ah", "aj", "ak", "al", "am");
        Due.is("ten classes", 10, () -> z.account(0, 4));
    }

    private static void accountsAre(VerseScanner x, int... due) {
        for (int i = 0; i < due.length; i++) {
            int what = i;
            Due.is("account " + what, due[what], () -> x.account(0, what));
        }
    }

    @Sentence(promise = 28, value = "Throws `IndexOutOfBoundsException` if there is no such draft")
    static void accountOfNoDraft() {
        for (int what : new int[] {-1, 0, 4, 7, 8}) {
            needsDraft("account " + what, (x, draft) -> x.account(draft, what));
        }
    }

    @Sentence(promise = 28, value = "Throws `IllegalArgumentException` if what is out of range")
    static void noAccount() {
        VerseScanner x = accounted();
        for (int wrong : new int[] {-1, 8, 9, Integer.MIN_VALUE, Integer.MAX_VALUE}) {
            Due.fails("account " + wrong, ARGUMENT, () -> x.account(0, wrong));
            Due.fails("account " + wrong + " of an empty draft", ARGUMENT, () -> x.account(1, wrong));
        }
    }

    // ---- meanCost

    @Sentence(promise = 29, value = "Returns the mean cost of a draft: its account 2, divided by the number of lines "
            + "that have a scan, both converted to float.")
    static void meanCost() {
        Due.is("of four lines of five", 10f / 4f, () -> accounted().meanCost(0));
        VerseScanner x = marked("1111", "11111", "1112", "11", "1110");
        x.setMetre(1, 2, 0);
        x.setTolerance(0);
        // 0, 1, 3, none and 0: also those that do not fit
        Due.is("of lines that do not fit, too", 4f / 4f, () -> x.meanCost(0));
        x.removeLine(0, 0);
        Due.is("of thirds", (float) 4 / (float) 3, () -> x.meanCost(0));
        x.removeLine(0, 1);
        Due.is("of halves", 0.5f, () -> x.meanCost(0));
        x.removeLine(0, 0);
        Due.is("of no costs", 0f, () -> x.meanCost(0));
        VerseScanner y = marked("1111", "1111", "1111", "1111", "1111", "1111", "1111", "1111", "1111", "11111");
        y.setMetre(0, 2, 0);
        Due.is("of ten lines", 1f / 10f, () -> y.meanCost(0));
    }

    @Sentence(promise = 29, value = "Throws `IndexOutOfBoundsException` if there is no such draft")
    static void meanCostOfNoDraft() {
        needsDraft("meanCost", (x, draft) -> x.meanCost(draft));
    }

    @Sentence(promise = 29, value = "Throws `ArithmeticException` if no line has a scan")
    static void meanCostOfNoScan() {
        VerseScanner x = marked("11", "111111");
        x.setMetre(0, 2, 0);
        Due.fails("of two lines without a scan", ARITHMETIC, () -> x.meanCost(0));
        Due.fails("of no lines", ARITHMETIC, () -> x.meanCost(1));
        fed(x, "m m m m").addLine(0, 2);
        Due.is("of a line with a scan", 0f, () -> x.meanCost(0));
    }

    // ---- undo

    @Sentence(promise = 30, value = "Undoes the latest change that was not undone.")
    static void undo() {
        isUndone("setMetre", x -> x.setMetre(1, 3, 2));
        isUndone("readMetre", x -> fed(x, "dactyl 4/1").readMetre());
        isUndone("setTolerance", x -> x.setTolerance(1));
        isUndone("readException", x -> fed(x, "day 0").readException());
        isUndone("readException of a known word", x -> fed(x, "a 012").readException());
        isUndone("dropException", x -> x.dropException(0));
        isUndone("addLine", x -> fed(x, "new").addLine(0, 0));
        isUndone("addLine of a tenth line", x -> fed(x, "new").addLine(1, 9));
        isUndone("replaceLine", x -> fed(x, "new").replaceLine(0, 0));
        isUndone("removeLine", x -> x.removeLine(0, 0));
        isUndone("moveLine", x -> x.moveLine(0, 0, 1));
        isUndone("copyDraft", x -> x.copyDraft(1, 0));
        isUndone("clearDraft", x -> x.clearDraft(1));
        VerseScanner x = new VerseScanner();
        x.setMetre(0, 2, 0);
        x.setMetre(0, 3, 0);
        Due.is("undo", 1, () -> x.undo());
        Due.is("feet before the second change", 2, () -> x.metre(1));
        x.setMetre(0, 4, 0);
        Due.is("undo of a new change", 1, () -> x.undo());
        Due.is("feet before the new change", 2, () -> x.metre(1));
        Due.is("undo of the first one", 0, () -> x.undo());
        Due.is("feet before all", 5, () -> x.metre(1));
        x.setMetre(0, 6, 0);
        Due.is("undo of a change after all were undone", 0, () -> x.undo());
        Due.is("feet before it", 5, () -> x.metre(1));
    }

    private static VerseScanner before() {
        VerseScanner x = added(excepted(with("the ocean a day", "a a"), "a 20"), 1, "a", "b", "c", "d", "e", "f", "g", "h", "i");
        x.setMetre(1, 2, 1);
        x.save();
        x.restore();
        x.setTolerance(3);
        return x;
    }

    private static void isUndone(String call, Change change) {
        String due = dissected(WholePromisesTest::before);
        Maker changed = () -> {
            VerseScanner x = before();
            change.on(x);
            return x;
        };
        Due.holds(call + " changes something", !due.equals(dissected(changed)));
        Due.is("what an object holds after the undo of " + call, due, () -> dissected(() -> {
            VerseScanner x = changed.make();
            x.undo();
            return x;
        }));
    }

    @Sentence(promise = 30, value = "The input and the error position stay.")
    static void undoKeepsInput() {
        VerseScanner x = with("b");
        erred(x, 4);
        fed(x, "c").addLine(0, 1);
        fed(x, "a ");
        x.undo();
        x.undo();
        Due.is("the error position", 4, () -> x.errorPosition());
        Due.is("the input", 3, () -> x.feed('b'));
        Due.is("the line", 2, () -> x.addLine(0, 0));
        Due.is("its text", "a b", () -> text(x, 0, 0));
    }

    @Sentence(promise = 30, value = "Returns the number of changes that can still be undone.")
    static void undoReturnsRest() {
        for (int i = 1; i <= 20; i++) {
            VerseScanner x = new VerseScanner();
            for (int j = 0; j < i; j++) {
                x.setTolerance(j);
            }
            for (int j = Math.min(i, 8) - 1; j >= 0; j--) {
                Due.is("undo after " + i + " changes", j, () -> x.undo());
            }
        }
    }

    @Sentence(promise = 30, value = "Throws `IllegalStateException` if there is none")
    static void undoOfNone() {
        VerseScanner x = new VerseScanner();
        Due.fails("undo of a new object", STATE, () -> x.undo());
        x.setTolerance(1);
        Due.is("undo", 0, () -> x.undo());
        Due.fails("undo again", STATE, () -> x.undo());
        for (int i = 0; i < 9; i++) {
            x.clearDraft(0);
        }
        for (int i = 0; i < 8; i++) {
            x.undo();
        }
        Due.fails("a ninth undo", STATE, () -> x.undo());
        x.save();
        x.setTolerance(2);
        x.restore();
        Due.fails("undo after restore", STATE, () -> x.undo());
    }

    // ---- save and restore

    @Sentence(promise = 31, value = "Saves the metre, the tolerance, the exceptions and the drafts, in place of what "
            + "was saved before.")
    static void save() {
        VerseScanner x = filled();
        x.save();
        x.setMetre(3, 6, 5);
        x.setTolerance(30);
        excepted(x, "sea 012012");
        x.clearDraft(1);
        fed(x, "c,").addLine(0, 0);
        x.copyDraft(3, 2);
        x.removeLine(3, 0);
        String due = state(x);
        x.save();
        Due.is("the state after save", due, () -> state(x));
        x.setTolerance(1);
        x.setMetre(0, 2, 1);
        x.dropException(0);
        for (int draft = 0; draft < 4; draft++) {
            fed(x, "new").addLine(draft, 0);
            x.removeLine(draft, x.account(draft, 0) - 1);
        }
        Due.holds("the state is another one", !state(x).equals(due));
        x.restore();
        Due.is("the state after restore", due, () -> state(x));
        Due.is("the tolerance", 30, () -> x.setTolerance(0));
        VerseScanner y = with("a");
        y.setTolerance(7);
        y.save();
        y.undo();
        y.undo();
        Due.is("the lines after undo", 0, () -> y.account(0, 0));
        Due.is("the lines that were saved", 1, () -> y.restore());
        Due.is("the tolerance that was saved", 7, () -> y.setTolerance(0));
    }

    @Sentence(promise = 31, value = "Returns the sum of the numbers of lines of all drafts.")
    static void saveReturnsLines() {
        Due.is("of a new object", 0, () -> new VerseScanner().save());
        Due.is("of four drafts", 1 + 3 + 10 + 2, () -> filled().save());
        Due.is("of four full drafts", 40, () -> full().save());
    }

    private static VerseScanner full() {
        VerseScanner x = filled();
        x.copyDraft(2, 0);
        x.copyDraft(2, 1);
        x.copyDraft(2, 3);
        return x;
    }

    @Sentence(promise = 32, value = "Restores what was saved last, which stays saved.")
    static void restore() {
        VerseScanner x = excepted(filled(), "sea 0");
        x.setMetre(1, 4, 3);
        x.setTolerance(9);
        x.save();
        String due = state(x);
        for (int i = 0; i < 3; i++) {
            x.clearDraft(i);
            fed(x, "other").addLine(3, 0);
            excepted(x, "sea 222", "over 1");
            x.setMetre(2, 2, 0);
            x.setTolerance(i);
            x.restore();
            Due.is("the state, restored " + i, due, () -> state(x));
            Due.is("the tolerance, restored", 9, () -> x.setTolerance(1));
        }
        x.clearDraft(2);
        x.save();
        fed(x, "z").addLine(2, 0);
        Due.is("what was saved last", 6, () -> x.restore());
        Due.is("its draft 2", 0, () -> x.account(2, 0));
    }

    @Sentence(promise = 32, value = "Nothing can be undone then; the input and the error position stay.")
    static void afterRestore() {
        VerseScanner x = with("b");
        erred(x, 5);
        x.save();
        for (int i = 0; i < 9; i++) {
            x.setTolerance(i);
        }
        fed(x, "a ");
        x.restore();
        Due.fails("undo", STATE, () -> x.undo());
        Due.is("the error position", 5, () -> x.errorPosition());
        Due.is("the input", 3, () -> x.feed('b'));
        Due.is("a change", 2, () -> x.addLine(0, 0));
        Due.is("its undo", 0, () -> x.undo());
        Due.fails("undo of more", STATE, () -> x.undo());
        Due.is("the draft", "b", () -> texts(x, 0));
        Due.is("the tolerance", 6, () -> x.setTolerance(0));
        VerseScanner y = new VerseScanner();
        y.save();
        y.restore();
        Due.fails("undo where nothing changed", STATE, () -> y.undo());
        Due.fails("errorPosition where there was none", ELEMENT, () -> y.errorPosition());
    }

    @Sentence(promise = 32, value = "Returns the sum of the numbers of lines of all drafts.")
    static void restoreReturnsLines() {
        VerseScanner x = full();
        x.save();
        x.clearDraft(3);
        Due.is("of four full drafts", 40, () -> x.restore());
        VerseScanner y = new VerseScanner();
        y.save();
        added(y, 2, "a", "b");
        Due.is("of none", 0, () -> y.restore());
    }

    @Sentence(promise = 32, value = "Throws `IllegalStateException` if nothing was saved")
    static void restoreOfNothing() {
        Due.fails("of a new object", STATE, () -> new VerseScanner().restore());
        failsAlone("restore", STATE, () -> excepted(with("a", "b"), "a 20"), x -> x.restore(), x -> { });
        VerseScanner x = new VerseScanner();
        x.save();
        Due.is("of a new object that was saved", 0, () -> x.restore());
        Due.is("again", 0, () -> x.restore());
    }
}
