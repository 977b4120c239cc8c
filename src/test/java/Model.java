import java.util.ArrayDeque;
import java.util.ArrayList;
import java.util.Arrays;
import java.util.List;
import java.util.NoSuchElementException;
import java.util.function.Predicate;
import java.util.regex.Pattern;

/** A second writing of the document, as plain as can be: texts stay texts, and every choice is tried. */
final class Model {
    private static final String[] KINDS = {"iamb", "trochee", "anapest", "dactyl"};
    private static final String[] FEET = {"ws", "sw", "wws", "sww"};
    private static final Pattern LINE = Pattern.compile("[a-z]{1,12}(,? [a-z]{1,12}){0,11},?");
    private static final Pattern EXCEPTION = Pattern.compile("[a-z]{1,12} [0-2]{1,6}");
    /** A blank behind a twelfth word is not yet wrong: the document takes the letter behind it for the error. */
    private static final Pattern LINE_BEGINNING = Pattern.compile("[a-z]{1,12}(,? [a-z]{1,12}){0,11}(,|,? )?");
    private static final Pattern EXCEPTION_BEGINNING = Pattern.compile("[a-z]{1,12}( [0-2]{0,6})?");

    /** What changes touch. */
    private static final class Book {
        int kind = 0;
        int feet = 5;
        int caesura = 0;
        int tolerance = 6;
        List<String> exceptions = new ArrayList<>();
        List<List<String>> drafts = new ArrayList<>(List.of(List.of(), List.of(), List.of(), List.of()));

        Book copy() {
            Book other = new Book();
            other.kind = kind;
            other.feet = feet;
            other.caesura = caesura;
            other.tolerance = tolerance;
            other.exceptions = new ArrayList<>(exceptions);
            other.drafts = new ArrayList<>();
            for (List<String> draft : drafts) {
                other.drafts.add(new ArrayList<>(draft));
            }
            return other;
        }

        int lines() {
            return drafts.stream().mapToInt(List::size).sum();
        }
    }

    /** A scan with its cost; first and dear tell of its syllables that cost by their marks. */
    private record Scan(int cost, int set, boolean isInverted, int syllables, int first, int dear) {
    }

    private final ArrayDeque<Book> past = new ArrayDeque<>();
    private final StringBuilder input = new StringBuilder();
    private Book book = new Book().copy();
    private Book snapshot = null;
    private int error = -1;

    // ---- texts

    int feed(char character) {
        if (input.length() == 60) {
            throw new IllegalStateException();
        }
        return input.append(character).length();
    }

    int errorPosition() {
        if (error < 0) {
            throw new NoSuchElementException();
        }
        return error;
    }

    /** Takes the input; its error stands behind the longest beginning that can continue. */
    private String take(Predicate<String> form, Predicate<String> beginning) {
        String text = input.toString();
        input.setLength(0);
        if (form.test(text)) {
            return text;
        }
        int good = 0;
        while (good < text.length() && beginning.test(text.substring(0, good + 1))) {
            good++;
        }
        error = good;
        throw new IllegalArgumentException();
    }

    int readMetre() {
        List<String> metres = new ArrayList<>();
        for (String kind : KINDS) {
            for (int feet = 2; feet <= 6; feet++) {
                metres.add(kind + " " + feet);
                for (int caesura = 1; caesura < feet; caesura++) {
                    metres.add(kind + " " + feet + "/" + caesura);
                }
            }
        }
        String text = take(metres::contains, beginning -> metres.stream().anyMatch(m -> m.startsWith(beginning)));
        change();
        String[] parts = text.split("[ /]");
        book.kind = Arrays.asList(KINDS).indexOf(parts[0]);
        book.feet = Integer.parseInt(parts[1]);
        book.caesura = parts.length == 3 ? Integer.parseInt(parts[2]) : 0;
        return positions(book.kind, book.feet, false).length();
    }

    int readException() {
        String text = take(EXCEPTION.asMatchPredicate(), EXCEPTION_BEGINNING.asMatchPredicate());
        String word = text.split(" ")[0];
        int number = exceptionOf(word);
        if (number < 0 && book.exceptions.size() == 8) {
            throw new IllegalStateException();
        }
        change();
        if (number < 0) {
            book.exceptions.add(text);
            return book.exceptions.size() - 1;
        }
        book.exceptions.set(number, text);
        return number;
    }

    int dropException(int exception) {
        check(exception, book.exceptions.size());
        change();
        return book.exceptions.remove(exception).split(" ")[1].length();
    }

    int exceptions() {
        return book.exceptions.size();
    }

    // ---- metres and changes

    int setMetre(int kind, int feet, int caesura) {
        if (kind < 0 || kind > 3 || feet < 2 || feet > 6 || caesura < 0 || caesura > feet - 1) {
            throw new IllegalArgumentException();
        }
        int previous = 100 * book.kind + 10 * book.feet + book.caesura;
        change();
        book.kind = kind;
        book.feet = feet;
        book.caesura = caesura;
        return previous;
    }

    int metre(int what) {
        String positions = positions(book.kind, book.feet, false);
        int set = 0;
        for (int i = 0; i < positions.length(); i++) {
            set += positions.charAt(i) == 's' ? (int) Math.pow(2, i) : 0;
        }
        return pick(what, book.kind, book.feet, book.caesura, positions.length(), set);
    }

    int setTolerance(int tolerance) {
        if (tolerance < 0 || tolerance > 30) {
            throw new IllegalArgumentException();
        }
        int previous = book.tolerance;
        change();
        book.tolerance = tolerance;
        return previous;
    }

    int addLine(int draft, int at) {
        check(draft, 4);
        check(at, book.drafts.get(draft).size() + 1);
        String text = take(LINE.asMatchPredicate(), LINE_BEGINNING.asMatchPredicate());
        if (book.drafts.get(draft).size() == 10) {
            throw new IllegalStateException();
        }
        change();
        book.drafts.get(draft).add(at, text);
        return words(text).size();
    }

    int replaceLine(int draft, int line) {
        get(draft, line);
        String text = take(LINE.asMatchPredicate(), LINE_BEGINNING.asMatchPredicate());
        change();
        book.drafts.get(draft).set(line, text);
        return words(text).size();
    }

    int removeLine(int draft, int line) {
        get(draft, line);
        change();
        book.drafts.get(draft).remove(line);
        return book.drafts.get(draft).size();
    }

    int moveLine(int draft, int line, int to) {
        get(draft, line);
        get(draft, to);
        change();
        String moved = book.drafts.get(draft).remove(line);
        book.drafts.get(draft).add(to, moved);
        return Math.max(line, to) - Math.min(line, to);
    }

    int copyDraft(int from, int to) {
        check(from, 4);
        check(to, 4);
        change();
        book.drafts.set(to, new ArrayList<>(book.drafts.get(from)));
        return book.drafts.get(from).size();
    }

    int clearDraft(int draft) {
        check(draft, 4);
        change();
        int had = book.drafts.get(draft).size();
        book.drafts.get(draft).clear();
        return had;
    }

    int undo() {
        if (past.isEmpty()) {
            throw new IllegalStateException();
        }
        book = past.removeLast();
        return past.size();
    }

    int save() {
        snapshot = book.copy();
        return snapshot.lines();
    }

    int restore() {
        if (snapshot == null) {
            throw new IllegalStateException();
        }
        book = snapshot.copy();
        past.clear();
        return book.lines();
    }

    private void change() {
        past.addLast(book.copy());
        if (past.size() > 8) {
            past.removeFirst();
        }
    }

    // ---- lines and words

    char character(int draft, int line, int position) {
        String text = get(draft, line);
        check(position, text.length());
        return text.charAt(position);
    }

    int line(int draft, int line, int what) {
        String text = get(draft, line);
        int sum = marks(text).stream().mapToInt(String::length).sum();
        int most = elisions(text).stream().mapToInt(Integer::bitCount).max().getAsInt();
        int commas = text.replaceAll("[^,]", "").length();
        return pick(what, words(text).size(), sum, places(text), most, commas,
                classes(book.drafts.get(draft)).get(line), rhyme(text).length());
    }

    int word(int draft, int line, int word, int what) {
        String text = get(draft, line);
        check(word, words(text).size());
        String letters = words(text).get(word);
        String marks = marks(text).get(word);
        return pick(what, letters.length(), cores(letters).size(), marks.length(), hasComma(text, word) ? 1 : 0,
                exceptionOf(letters), Integer.parseInt(marks));
    }

    char rhyme(int draft, int line, int position) {
        String rhyme = rhyme(get(draft, line));
        check(position, rhyme.length());
        return rhyme.charAt(position);
    }

    int rhymes(int draft, int one, int other) {
        String first = get(draft, one);
        return kindOfLines(first, get(draft, other));
    }

    // ---- scans

    int cost(int draft, int line, int elisions, boolean isInverted) {
        String text = get(draft, line);
        if (!elisions(text).contains(elisions)) {
            throw new IllegalArgumentException();
        }
        Scan scan = scanOf(text, elisions, isInverted, book.kind, book.feet, book.caesura);
        if (scan == null) {
            throw new NoSuchElementException();
        }
        return scan.cost;
    }

    int scan(int draft, int line, int what) {
        String text = get(draft, line);
        pick(what, 0, 0, 0, 0, 0, 0);
        Scan best = best(text);
        if (best == null) {
            throw new NoSuchElementException();
        }
        return pick(what, best.cost, best.set, best.isInverted ? 1 : 0, best.syllables, best.first, best.dear);
    }

    int scans(int draft, int line) {
        return allScans(get(draft, line), book.kind, book.feet, book.caesura).size();
    }

    int reason(int draft, int line) {
        String text = get(draft, line);
        Scan best = best(text);
        if (best != null) {
            return best.cost <= book.tolerance ? 0 : 4;
        }
        String positions = positions(book.kind, book.feet, false);
        int least = positions.endsWith("w") ? positions.length() - 1 : positions.length();
        int syllables = line(draft, line, 1);
        if (syllables < least) {
            return 1;
        }
        return syllables - line(draft, line, 3) > positions.length() + 1 ? 2 : 3;
    }

    // ---- drafts

    int difference(int one, int other) {
        check(one, 4);
        check(other, 4);
        List<String> from = book.drafts.get(one);
        List<String> to = book.drafts.get(other);
        int[][] least = new int[from.size() + 1][to.size() + 1];
        for (int i = from.size(); i >= 0; i--) {
            for (int j = to.size(); j >= 0; j--) {
                int found = i == from.size() && j == to.size() ? 0 : 1000;
                if (i < from.size()) {
                    found = Math.min(found, 3 + least[i + 1][j]);
                }
                if (j < to.size()) {
                    found = Math.min(found, 3 + least[i][j + 1]);
                }
                if (i < from.size() && j < to.size()) {
                    found = Math.min(found, changedPlaces(from.get(i), to.get(j)) + least[i + 1][j + 1]);
                }
                least[i][j] = found;
            }
        }
        return least[0][0];
    }

    private static int changedPlaces(String one, String other) {
        List<String> first = new ArrayList<>(words(one));
        List<String> second = new ArrayList<>(words(other));
        int changed = 0;
        for (int i = 0; i < 12; i++) {
            String a = i < first.size() ? first.get(i) : "";
            String b = i < second.size() ? second.get(i) : "";
            changed += a.equals(b) ? 0 : 1;
        }
        return Math.min(5, changed);
    }

    int suits(int draft) {
        check(draft, 4);
        int best = -1;
        int most = 0;
        int least = 0;
        for (int kind = 0; kind < 4; kind++) {
            for (int feet = 2; feet <= 6; feet++) {
                int fitting = 0;
                int sum = 0;
                for (String text : book.drafts.get(draft)) {
                    Scan scan = best(allScans(text, kind, feet, 0));
                    if (scan != null && scan.cost <= book.tolerance) {
                        fitting++;
                        sum += scan.cost;
                    }
                }
                if (fitting > most || fitting == most && fitting > 0 && sum < least) {
                    best = 10 * kind + feet;
                    most = fitting;
                    least = sum;
                }
            }
        }
        if (best < 0) {
            throw new NoSuchElementException();
        }
        return best;
    }

    int account(int draft, int what) {
        check(draft, 4);
        List<String> lines = book.drafts.get(draft);
        int[] sums = new int[8];
        sums[0] = lines.size();
        sums[4] = (int) classes(lines).stream().distinct().count();
        for (int i = 0; i < lines.size(); i++) {
            Scan best = best(lines.get(i));
            sums[1] += best != null && best.cost <= book.tolerance ? 1 : 0;
            sums[2] += best == null ? 0 : best.cost;
            sums[3] += best == null ? 1 : 0;
            sums[5] += line(draft, i, 1);
            sums[6] += best == null ? 0 : Integer.bitCount(best.set);
            for (String word : words(lines.get(i))) {
                sums[7] += exceptionOf(word) < 0 ? 0 : 1;
            }
        }
        return pick(what, sums);
    }

    float meanCost(int draft) {
        int lines = account(draft, 0) - account(draft, 3);
        if (lines == 0) {
            throw new ArithmeticException();
        }
        return (float) account(draft, 2) / (float) lines;
    }

    // ---- what the description says

    private String get(int draft, int line) {
        check(draft, 4);
        check(line, book.drafts.get(draft).size());
        return book.drafts.get(draft).get(line);
    }

    private static void check(int number, int end) {
        if (number < 0 || number >= end) {
            throw new IndexOutOfBoundsException();
        }
    }

    private static int pick(int what, int... numbers) {
        if (what < 0 || what >= numbers.length) {
            throw new IllegalArgumentException();
        }
        return numbers[what];
    }

    private static List<String> words(String text) {
        return List.of(text.replace(",", "").split(" "));
    }

    private static boolean hasComma(String text, int word) {
        return text.split(" ")[word].endsWith(",");
    }

    /** The places of the cores in a word: start and end. */
    private static List<int[]> cores(String word) {
        List<int[]> cores = new ArrayList<>();
        var found = Pattern.compile("[aeiouy]+").matcher(word);
        while (found.find()) {
            cores.add(new int[] {found.start(), found.end()});
        }
        if (cores.size() > 1 && word.matches(".*[^aeiouy]e")) {
            cores.remove(cores.size() - 1);
        }
        if (cores.isEmpty()) {
            cores.add(new int[] {0, word.length()});
        }
        return cores;
    }

    private int exceptionOf(String word) {
        for (int i = 0; i < book.exceptions.size(); i++) {
            if (book.exceptions.get(i).startsWith(word + " ")) {
                return i;
            }
        }
        return -1;
    }

    private String marksOf(String word) {
        if (exceptionOf(word) >= 0) {
            return book.exceptions.get(exceptionOf(word)).split(" ")[1];
        }
        return new String[] {"", "1", "20", "201", "0201", "10201", "010201"}[cores(word).size()];
    }

    private List<String> marks(String text) {
        List<String> marks = new ArrayList<>();
        for (String word : words(text)) {
            marks.add(marksOf(word));
        }
        return marks;
    }

    private static int places(String text) {
        List<String> words = words(text);
        int set = 0;
        for (int k = 0; k + 1 < words.size(); k++) {
            List<int[]> cores = cores(words.get(k));
            boolean endsInCore = cores.get(cores.size() - 1)[1] == words.get(k).length();
            boolean areVowels = words.get(k).matches(".*[aeiouy]") && words.get(k + 1).matches("[aeiouy].*");
            if (!hasComma(text, k) && endsInCore && areVowels) {
                set |= 1 << k;
            }
        }
        return set;
    }

    /** All sets of elisions that can be made, the lower ones first. */
    private List<Integer> elisions(String text) {
        List<String> marks = marks(text);
        int places = places(text);
        List<Integer> sets = new ArrayList<>();
        for (int set = 0; set < 2048; set++) {
            boolean isRight = (set & ~places) == 0;
            for (int word = 1; isRight && word < marks.size(); word++) {
                boolean atBothEnds = (set >> word & 1) == 1 && (set >> word - 1 & 1) == 1;
                isRight &= !(atBothEnds && marks.get(word).length() == 1);
            }
            if (isRight) {
                sets.add(set);
            }
        }
        return sets;
    }

    private static String positions(int kind, int feet, boolean isInverted) {
        String first = isInverted ? new StringBuilder(FEET[kind]).reverse().toString() : FEET[kind];
        return first + FEET[kind].repeat(feet - 1);
    }

    private List<Scan> allScans(String text, int kind, int feet, int caesura) {
        List<Scan> scans = new ArrayList<>();
        for (int set : elisions(text)) {
            for (int inverted = 0; inverted < 2; inverted++) {
                Scan scan = scanOf(text, set, inverted == 1, kind, feet, caesura);
                if (scan != null) {
                    scans.add(scan);
                }
            }
        }
        return scans;
    }

    private Scan best(String text) {
        return best(allScans(text, book.kind, book.feet, book.caesura));
    }

    private static Scan best(List<Scan> scans) {
        Scan best = null;
        for (Scan scan : scans) {
            if (best == null || scan.cost < best.cost
                    || scan.cost == best.cost && Integer.bitCount(scan.set) < Integer.bitCount(best.set)) {
                best = scan;
            }
        }
        return best;
    }

    /** A scan, or null; every syllable is told as its mark, and the word that it begins alone, or -1. */
    private Scan scanOf(String text, int set, boolean isInverted, int kind, int feet, int caesura) {
        List<Integer> syllables = new ArrayList<>();
        List<Integer> begins = new ArrayList<>();
        List<String> marks = marks(text);
        for (int word = 0; word < marks.size(); word++) {
            for (int i = 0; i < marks.get(word).length(); i++) {
                int mark = marks.get(word).charAt(i) - '0';
                if (i == 0 && word > 0 && (set >> word - 1 & 1) == 1) {
                    int last = syllables.size() - 1;
                    syllables.set(last, Math.max(syllables.get(last), mark));
                    begins.set(last, -1);
                } else {
                    syllables.add(mark);
                    begins.add(i == 0 ? word : -1);
                }
            }
        }
        String positions = positions(kind, feet, isInverted);
        int more = syllables.size() - positions.length();
        boolean isRight = more == 0 || more == 1 && syllables.get(syllables.size() - 1) != 2
                || more == -1 && positions.endsWith("w");
        int behind = caesura * FEET[kind].length();
        if (!isRight || caesura > 0 && begins.get(behind) < 0) {
            return null;
        }
        int cost = 2 * Integer.bitCount(set) + (isInverted ? 2 : 0) + Math.abs(more);
        cost += caesura > 0 && !hasComma(text, begins.get(behind) - 1) ? 1 : 0;
        int dear = 0;
        int first = -1;
        for (int i = 0; i < Math.min(syllables.size(), positions.length()); i++) {
            String pair = "" + syllables.get(i) + positions.charAt(i);
            int price = pair.equals("2w") ? 3 : pair.equals("0s") ? 4 : 0;
            cost += price;
            dear += price > 0 ? 1 : 0;
            first = price > 0 && first < 0 ? i / FEET[kind].length() : first;
        }
        return new Scan(cost, set, isInverted, syllables.size(), first, dear);
    }

    private String rhyme(String text) {
        List<String> words = words(text);
        String word = words.get(words.size() - 1);
        String marks = marksOf(word);
        List<int[]> cores = cores(word);
        int stressed = marks.contains("2") ? marks.lastIndexOf('2') : marks.length() - 1;
        int core = cores.size() - 1 - (marks.length() - 1 - stressed);
        int start = cores.get(core < 0 ? 0 : core)[0];
        boolean isLastLeftOut = word.endsWith("e") && cores.get(cores.size() - 1)[1] < word.length();
        // an e that is no core stands behind a letter that is no vowel, so the last core ends before it
        return word.substring(start, isLastLeftOut ? word.length() - 1 : word.length());
    }

    private int kindOfLines(String one, String other) {
        List<String> first = words(one);
        List<String> second = words(other);
        if (first.get(first.size() - 1).equals(second.get(second.size() - 1))) {
            return 3;
        }
        if (rhyme(one).equals(rhyme(other))) {
            return 2;
        }
        return rhyme(one).replaceAll("[^aeiouy]", "").equals(rhyme(other).replaceAll("[^aeiouy]", "")) ? 1 : 0;
    }

    private List<Integer> classes(List<String> lines) {
        List<Integer> classes = new ArrayList<>();
        for (int i = 0; i < lines.size(); i++) {
            int found = -1;
            for (int j = 0; j < i && found < 0; j++) {
                found = kindOfLines(lines.get(j), lines.get(i)) >= 2 ? classes.get(j) : -1;
            }
            for (int number = 0; found < 0; number++) {
                found = classes.contains(number) ? -1 : number;
            }
            classes.add(found);
        }
        return classes;
    }
}
