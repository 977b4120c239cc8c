/** Long runs of calls, the same ones each time, on the class and on the model beside it. */
public final class ModelTest {
    private static final String[] WORDS = {
        "a", "i", "o", "the", "be", "hmm", "by", "sea", "day", "lay", "late", "gate", "idea", "eye", "over", "ocean",
        "silver", "silence", "agony", "memory", "desire", "autumn", "evening", "imagination", "yea", "x", "brr",
        "alone", "orange", "ae", "aloe", "ababababab", "abababababab", "babe", "table", "e", "ye", "strengthsabc",
    };
    private static final String[] BAD = {
        "", "a  b", ",a", "a,b", "a b ", "a,, b", "abcdefghijklm", "A", "a b,c", "a a a a a a a a a a a a a",
        "a a a a a a a a a a a a ", "a a a a a a a a a a a a, ", "a a a a a a a a a a a a  ", "a1", "a ,",
        "iam", "iambs 3", "iamb", "iamb ", "iamb 1", "iamb 7", "iamb 4/", "iamb 4/4", "iamb 4/0", "iamb 33",
        "trochee 3/11", "dactyl  2", "anapest 2/2", "word", "word ", "word 3", "word 0120120", "word 012 ",
        "abcdefghijklm 1", " 1", "a 1a", "\u00e9 1", "a\u0141", "trocheus 4",
    };
    private static final int RUNS = 500;
    private static final int CALLS = 220;

    private long state = 2026;
    private VerseScanner scanner;
    private Model model;

    private ModelTest() {
    }

    public static void main(String[] args) {
        ModelTest test = new ModelTest();
        for (int run = 0; run < RUNS; run++) {
            test.run(run);
        }
        Due.end();
    }

    private int next(int end) {
        state = state * 6364136223846793005L + 1442695040888963407L;
        return (int) ((state >>> 33) % end);
    }

    private void run(int run) {
        scanner = new VerseScanner();
        model = new Model();
        if (next(2) == 0) {
            both("run " + run + " setTolerance", () -> scanner.setTolerance(20), () -> model.setTolerance(20));
        }
        for (int call = 0; call < CALLS; call++) {
            String name = "run " + run + ", call " + call + ": ";
            if (next(3) == 0) {
                change(name);
            } else {
                question(name);
            }
        }
        for (int draft = 0; draft < 4; draft++) {
            sweep("run " + run + ", at its end: ", draft);
        }
    }

    private static void both(String call, Due.Call made, Due.Call due) {
        Due.is(call, Due.outcome(due), made);
    }

    /** Mostly a number that can stand, at times any other one. */
    private int number(int end) {
        int choice = next(40);
        if (choice == 0) {
            return -1 - next(3);
        }
        if (choice == 1) {
            return end + next(3);
        }
        if (choice == 2) {
            return next(2) == 0 ? Integer.MIN_VALUE : Integer.MAX_VALUE;
        }
        return next(end);
    }

    private int draft() {
        return next(3) == 0 ? number(4) : 0;
    }

    private void feed(String name, String text) {
        for (char c : text.toCharArray()) {
            both(name + "feed " + (int) c, () -> scanner.feed(c), () -> model.feed(c));
        }
    }

    private String someLine() {
        StringBuilder text = new StringBuilder();
        boolean isOfFew = next(6) == 0;
        int words = next(5) == 0 ? 12 : 1 + next(8);
        for (int i = 0; i < words; i++) {
            String word = WORDS[next(isOfFew ? 3 : WORDS.length)];
            if (text.length() + word.length() + 3 > 60) {
                break;
            }
            text.append(i == 0 ? "" : next(6) == 0 ? ", " : " ").append(word);
        }
        return next(6) == 0 ? text + "," : text.toString();
    }

    private String someException() {
        StringBuilder text = new StringBuilder(WORDS[next(next(2) == 0 ? 6 : WORDS.length)]).append(' ');
        for (int i = next(4) == 0 ? next(6) : next(3); i >= 0; i--) {
            text.append((char) ('0' + next(3)));
        }
        return text.toString();
    }

    private String someMetre() {
        String kind = new String[] {"iamb", "trochee", "anapest", "dactyl"}[next(4)];
        int feet = 2 + next(5);
        return kind + " " + feet + (next(2) == 0 ? "" : "/" + (1 + next(feet)));
    }

    private void feedSome(String name, String usual) {
        int choice = next(12);
        feed(name, choice == 0 ? BAD[next(BAD.length)] : choice == 1 ? "a".repeat(next(3)) + usual : usual);
    }

    private void change(String name) {
        int a = draft();
        int b = number(6);
        int c = number(6);
        switch (next(16)) {
            case 0, 1, 2, 3 -> {
                feedSome(name, someLine());
                both(name + "addLine " + a + " " + b, () -> scanner.addLine(a, b), () -> model.addLine(a, b));
            }
            case 4 -> {
                feedSome(name, someLine());
                both(name + "replaceLine", () -> scanner.replaceLine(a, b), () -> model.replaceLine(a, b));
            }
            case 5, 6 -> {
                feedSome(name, someException());
                both(name + "readException", () -> scanner.readException(), () -> model.readException());
            }
            case 7 -> {
                feedSome(name, someMetre());
                both(name + "readMetre", () -> scanner.readMetre(), () -> model.readMetre());
            }
            case 8 -> {
                int kind = number(4);
                int feet = 2 + number(5);
                both(name + "setMetre", () -> scanner.setMetre(kind, feet, c), () -> model.setMetre(kind, feet, c));
            }
            case 9 -> {
                int tolerance = number(31);
                both(name + "setTolerance", () -> scanner.setTolerance(tolerance),
                        () -> model.setTolerance(tolerance));
            }
            case 10 -> both(name + "dropException", () -> scanner.dropException(b), () -> model.dropException(b));
            case 11 -> both(name + "removeLine", () -> scanner.removeLine(a, b), () -> model.removeLine(a, b));
            case 12 -> both(name + "moveLine", () -> scanner.moveLine(a, b, c), () -> model.moveLine(a, b, c));
            case 13 -> {
                int to = number(4);
                both(name + "copyDraft", () -> scanner.copyDraft(a, to), () -> model.copyDraft(a, to));
            }
            case 14 -> rareChange(name);
            default -> {
                for (int i = next(4); i >= 0; i--) {
                    both(name + "undo", () -> scanner.undo(), () -> model.undo());
                }
            }
        }
    }

    private void rareChange(String name) {
        int a = next(8) == 0 ? 0 : number(4);
        switch (next(6)) {
            case 0 -> both(name + "clearDraft", () -> scanner.clearDraft(a), () -> model.clearDraft(a));
            case 1 -> both(name + "restore", () -> scanner.restore(), () -> model.restore());
            case 2 -> {
                for (int i = 0; i < 11; i++) {
                    feedSome(name, someLine());
                    both(name + "addLine", () -> scanner.addLine(a, 0), () -> model.addLine(a, 0));
                }
            }
            case 3 -> {
                for (int i = 0; i < 9; i++) {
                    feedSome(name, someException());
                    both(name + "readException", () -> scanner.readException(), () -> model.readException());
                }
            }
            default -> both(name + "save", () -> scanner.save(), () -> model.save());
        }
    }

    private void question(String name) {
        int a = draft();
        int b = number(6);
        int c = number(6);
        int what = number(8);
        boolean isInverted = next(2) == 0;
        switch (next(17)) {
            case 0 -> both(name + "errorPosition", () -> scanner.errorPosition(), () -> model.errorPosition());
            case 1 -> both(name + "metre", () -> scanner.metre(what), () -> model.metre(what));
            case 2 -> both(name + "exceptions", () -> scanner.exceptions(), () -> model.exceptions());
            case 3 -> both(name + "character", () -> scanner.character(a, b, 5 * c), () -> model.character(a, b, 5 * c));
            case 4 -> both(name + "line " + what, () -> scanner.line(a, b, what), () -> model.line(a, b, what));
            case 5, 6 -> both(name + "word " + what, () -> scanner.word(a, b, c, what), () -> model.word(a, b, c, what));
            case 7 -> both(name + "rhyme", () -> scanner.rhyme(a, b, c), () -> model.rhyme(a, b, c));
            case 8 -> both(name + "rhymes", () -> scanner.rhymes(a, b, c), () -> model.rhymes(a, b, c));
            case 9, 10 -> {
                int set = next(3) == 0 ? next(64) : next(2) == 0 ? number(2048) : 0;
                both(name + "cost " + set, () -> scanner.cost(a, b, set, isInverted),
                        () -> model.cost(a, b, set, isInverted));
            }
            case 11, 12 -> both(name + "scan " + what, () -> scanner.scan(a, b, what), () -> model.scan(a, b, what));
            case 13 -> both(name + "scans", () -> scanner.scans(a, b), () -> model.scans(a, b));
            case 14 -> both(name + "reason", () -> scanner.reason(a, b), () -> model.reason(a, b));
            case 15 -> {
                int to = number(4);
                both(name + "difference", () -> scanner.difference(a, to), () -> model.difference(a, to));
            }
            default -> both(name + "account " + what, () -> scanner.account(a, what), () -> model.account(a, what));
        }
    }

    /** Asks of a draft whatever can be asked. */
    private void sweep(String name, int draft) {
        both(name + "suits", () -> scanner.suits(draft), () -> model.suits(draft));
        both(name + "meanCost", () -> scanner.meanCost(draft), () -> model.meanCost(draft));
        for (int i = 0; i < 9; i++) {
            int what = i;
            both(name + "account " + what, () -> scanner.account(draft, what), () -> model.account(draft, what));
        }
        for (int i = 0; i < model.account(draft, 0); i++) {
            int line = i;
            both(name + "reason", () -> scanner.reason(draft, line), () -> model.reason(draft, line));
            both(name + "scans", () -> scanner.scans(draft, line), () -> model.scans(draft, line));
            for (int j = 0; j < 8; j++) {
                int what = j;
                both(name + "line " + what, () -> scanner.line(draft, line, what), () -> model.line(draft, line, what));
                both(name + "scan " + what, () -> scanner.scan(draft, line, what), () -> model.scan(draft, line, what));
                both(name + "rhyme", () -> scanner.rhyme(draft, line, what), () -> model.rhyme(draft, line, what));
            }
        }
    }
}
