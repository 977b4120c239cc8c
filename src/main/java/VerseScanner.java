import java.util.Arrays;
import java.util.NoSuchElementException;

/** A scanner for the metre of poems; README.md tells where its promises are written. */
public final class VerseScanner {
    private static final int MAX_INPUT = 60;
    private static final int MAX_LETTERS = 12;
    private static final int MAX_WORDS = 12;
    private static final int MAX_MARKS = 6;
    private static final int MAX_EXCEPTIONS = 8;
    private static final int MAX_LINES = 10;
    private static final int DRAFTS = 4;
    private static final int MAX_TOLERANCE = 30;
    private static final int MAX_CHANGES = 8;

    private static final int KINDS = 4;
    private static final int IAMB = 0;
    private static final int TROCHEE = 1;
    private static final int ANAPEST = 2;
    private static final int MIN_FEET = 2;
    private static final int MAX_FEET = 6;
    private static final int FEET_CHOICES = MAX_FEET - MIN_FEET + 1;
    private static final int MAX_POSITIONS = 18;

    private static final int UNSTRESSED = 0;
    private static final int EITHER = 1;
    private static final int STRESSED = 2;
    private static final String VOWELS = "aeiouy";

    private static final int ADDED_LINE = 3;
    private static final int MAX_CHANGED_LINE = 5;

    private static final int NONE = -1;

    // A key holds a scan so that the better one of two is the smaller number:
    // its cost, the number of its elisions, their set, and the inversion, from the highest bits down.
    private static final int COST_SHIFT = 16;
    private static final int COUNT_SHIFT = 12;
    private static final int SET_SHIFT = 1;
    private static final int SET_BITS = 0x7ff;
    private static final int INVERSION_KEY = (2 << COST_SHIFT) + 1;
    private static final int ELISION_KEY = (2 << COST_SHIFT) + (1 << COUNT_SHIFT);
    private static final int NO_KEY = 1 << 30;

    private final Input input = new Input();
    private final State[] history = new State[MAX_CHANGES];
    private final State saved = new State();
    private final Reading reading = new Reading();
    private final Scansion scansion = new Scansion(reading);
    private final Metre[] candidates = new Metre[KINDS * FEET_CHOICES];
    private final int[] fitting = new int[KINDS * FEET_CHOICES];
    private final int[] fittingCosts = new int[KINDS * FEET_CHOICES];
    private final int[] rhymeStarts = new int[MAX_LINES];
    private final int[] classes = new int[MAX_LINES];
    private final int[] distances = new int[MAX_LINES + 1];
    private State now = new State();
    private int undoable = 0;
    private boolean isSaved = false;

    public VerseScanner() {
        for (int i = 0; i < history.length; i++) {
            history[i] = new State();
        }
        int made = 0;
        for (int kind = 0; kind < KINDS; kind++) {
            for (int feet = MIN_FEET; feet <= MAX_FEET && made < candidates.length; feet++) {
                candidates[made] = new Metre(kind, feet, 0);
                made++;
            }
        }
    }

    public int feed(char character) throws IllegalStateException {
        if (input.length >= MAX_INPUT) {
            throw new IllegalStateException("the input is full");
        }
        return input.append(character);
    }

    public int errorPosition() throws NoSuchElementException {
        if (input.error == NONE) {
            throw new NoSuchElementException("no text had an error");
        }
        return input.error;
    }

    public int setMetre(int kind, int feet, int caesura) throws IllegalArgumentException {
        if (kind < 0 || kind >= KINDS || feet < MIN_FEET || feet > MAX_FEET || caesura < 0 || caesura >= feet) {
            throw new IllegalArgumentException("no such metre");
        }
        remember();
        Metre previous = now.metre;
        now.metre = new Metre(kind, feet, caesura);
        return 100 * previous.kind + 10 * previous.feet + previous.caesura;
    }

    public int readMetre() throws IllegalArgumentException {
        Metre read = input.takeMetre();
        if (read == null) {
            throw new IllegalArgumentException("the text is no metre");
        }
        remember();
        now.metre = read;
        return read.positions;
    }

    public int metre(int what) throws IllegalArgumentException {
        switch (what) {
            case 0:
                return now.metre.kind;
            case 1:
                return now.metre.feet;
            case 2:
                return now.metre.caesura;
            case 3:
                return now.metre.positions;
            case 4:
                return now.metre.strong;
            default:
                throw new IllegalArgumentException("a metre has no such number");
        }
    }

    public int setTolerance(int tolerance) throws IllegalArgumentException {
        if (tolerance < 0 || tolerance > MAX_TOLERANCE) {
            throw new IllegalArgumentException("no such tolerance");
        }
        remember();
        int previous = now.tolerance;
        now.tolerance = tolerance;
        return previous;
    }

    public int readException() throws IllegalArgumentException, IllegalStateException {
        Marking read = input.takeMarking();
        if (read == null) {
            throw new IllegalArgumentException("the text is no exception");
        }
        int known = now.markingNumber(read.word);
        int number = known == NONE ? now.markingCount : known;
        if (number >= MAX_EXCEPTIONS) {
            throw new IllegalStateException("there are too many exceptions");
        }
        remember();
        now.putMarking(number, read);
        return number;
    }

    public int dropException(int exception) throws IndexOutOfBoundsException {
        Marking dropped = now.markingAt(exception);
        if (dropped == null) {
            throw new IndexOutOfBoundsException("no such exception");
        }
        remember();
        now.removeMarking(exception);
        return dropped.count;
    }

    public int exceptions() {
        return now.markingCount;
    }

    public int addLine(int draft, int at)
            throws IndexOutOfBoundsException, IllegalArgumentException, IllegalStateException {
        Draft changed = draftAt(draft);
        if (at < 0 || at > changed.count) {
            throw new IndexOutOfBoundsException("no such number of a line");
        }
        Line read = input.takeLine();
        if (read == null) {
            throw new IllegalArgumentException("the text is no line");
        }
        if (changed.count >= MAX_LINES) {
            throw new IllegalStateException("the draft is full");
        }
        remember();
        changed.insert(at, read);
        return read.wordCount;
    }

    public int replaceLine(int draft, int line) throws IndexOutOfBoundsException, IllegalArgumentException {
        Draft changed = draftAt(draft);
        lineAt(draft, line);
        Line read = input.takeLine();
        if (read == null) {
            throw new IllegalArgumentException("the text is no line");
        }
        remember();
        changed.put(line, read);
        return read.wordCount;
    }

    public int removeLine(int draft, int line) throws IndexOutOfBoundsException {
        Draft changed = draftAt(draft);
        lineAt(draft, line);
        remember();
        changed.remove(line);
        return changed.count;
    }

    public int moveLine(int draft, int line, int to) throws IndexOutOfBoundsException {
        Draft changed = draftAt(draft);
        Line moved = lineAt(draft, line);
        lineAt(draft, to);
        remember();
        changed.remove(line);
        changed.insert(to, moved);
        return Math.abs(to - line);
    }

    public int copyDraft(int from, int to) throws IndexOutOfBoundsException {
        Draft source = draftAt(from);
        Draft target = draftAt(to);
        remember();
        target.become(source);
        return target.count;
    }

    public int clearDraft(int draft) throws IndexOutOfBoundsException {
        Draft changed = draftAt(draft);
        remember();
        int had = changed.count;
        changed.empty();
        return had;
    }

    public char character(int draft, int line, int position) throws IndexOutOfBoundsException {
        Line looked = lineAt(draft, line);
        if (position < 0 || position >= looked.text.length) {
            throw new IndexOutOfBoundsException("no such position in the line");
        }
        return looked.text[position];
    }

    public int line(int draft, int line, int what) throws IndexOutOfBoundsException, IllegalArgumentException {
        Line looked = lineAt(draft, line);
        reading.fill(looked, now);
        switch (what) {
            case 0:
                return looked.wordCount;
            case 1:
                return reading.syllables;
            case 2:
                return reading.places;
            case 3:
                return reading.mostElisions;
            case 4:
                return Integer.bitCount(looked.commas);
            case 5:
                return classOf(draft, line);
            case 6:
                return looked.lastWord.sounding - now.rhymeStart(looked.lastWord);
            default:
                throw new IllegalArgumentException("a line has no such number");
        }
    }

    public int word(int draft, int line, int word, int what)
            throws IndexOutOfBoundsException, IllegalArgumentException {
        Line looked = lineAt(draft, line);
        Word found = looked.wordAt(word);
        if (found == null) {
            throw new IndexOutOfBoundsException("no such word");
        }
        switch (what) {
            case 0:
                return found.letters.length;
            case 1:
                return found.cores;
            case 2:
                return syllablesOf(found, now.markingFor(found));
            case 3:
                return looked.commas >> word & 1;
            case 4:
                return now.markingNumber(found);
            case 5:
                return marksAsDigits(found, now.markingFor(found));
            default:
                throw new IllegalArgumentException("a word has no such number");
        }
    }

    public char rhyme(int draft, int line, int position) throws IndexOutOfBoundsException {
        Word last = lineAt(draft, line).lastWord;
        int start = now.rhymeStart(last);
        if (position < 0 || position >= last.sounding - start) {
            throw new IndexOutOfBoundsException("no such position in the rhyme");
        }
        return last.letterAt(start + position);
    }

    public int rhymes(int draft, int one, int other) throws IndexOutOfBoundsException {
        Word first = lineAt(draft, one).lastWord;
        Word second = lineAt(draft, other).lastWord;
        return rhymeKind(first, now.rhymeStart(first), second, now.rhymeStart(second));
    }

    public int cost(int draft, int line, int elisions, boolean isInverted)
            throws IndexOutOfBoundsException, IllegalArgumentException, NoSuchElementException {
        reading.fill(lineAt(draft, line), now);
        if (!reading.allows(elisions)) {
            throw new IllegalArgumentException("these elisions cannot be made together");
        }
        int found = scansion.priceOf(now.metre, elisions, isInverted);
        if (found == NONE) {
            throw new NoSuchElementException("this is no scan");
        }
        return found;
    }

    public int scan(int draft, int line, int what)
            throws IndexOutOfBoundsException, IllegalArgumentException, NoSuchElementException {
        Line looked = lineAt(draft, line);
        if (what < 0 || what > 5) {
            throw new IllegalArgumentException("a scan has no such number");
        }
        int key = bestKey(looked);
        if (key == NO_KEY) {
            throw new NoSuchElementException("the line has no scan");
        }
        return numberOfScan(key, what);
    }

    public int scans(int draft, int line) throws IndexOutOfBoundsException {
        bestKey(lineAt(draft, line));
        return scansion.found;
    }

    public int reason(int draft, int line) throws IndexOutOfBoundsException {
        int key = bestKey(lineAt(draft, line));
        if (key != NO_KEY) {
            return fits(key) ? 0 : 4;
        }
        if (reading.hasTooFew(now.metre)) {
            return 1;
        }
        return reading.hasTooMany(now.metre) ? 2 : 3;
    }

    public int difference(int one, int other) throws IndexOutOfBoundsException {
        return distance(draftAt(one), draftAt(other));
    }

    public int suits(int draft) throws IndexOutOfBoundsException, NoSuchElementException {
        tryCandidates(draftAt(draft));
        int best = bestCandidate();
        if (best == NONE) {
            throw new NoSuchElementException("no line fits any metre");
        }
        return 10 * candidates[best].kind + candidates[best].feet;
    }

    public int account(int draft, int what) throws IndexOutOfBoundsException, IllegalArgumentException {
        Draft looked = draftAt(draft);
        if (what < 0 || what > 7) {
            throw new IllegalArgumentException("a draft has no such account");
        }
        if (what == 0) {
            return looked.count;
        }
        return what == 4 ? fillClasses(looked) : sumOfShares(looked, what);
    }

    public float meanCost(int draft) throws IndexOutOfBoundsException, ArithmeticException {
        Draft looked = draftAt(draft);
        int scanned = looked.count - sumOfShares(looked, 3);
        if (scanned == 0) {
            throw new ArithmeticException("no line has a scan");
        }
        return (float) sumOfShares(looked, 2) / (float) scanned;
    }

    public int undo() throws IllegalStateException {
        if (undoable <= 0 || undoable > history.length) {
            throw new IllegalStateException("there is no change to undo");
        }
        undoable--;
        State undone = now;
        now = history[undoable];
        history[undoable] = undone;
        return undoable;
    }

    public int save() {
        saved.become(now);
        isSaved = true;
        return saved.lineCount();
    }

    public int restore() throws IllegalStateException {
        if (!isSaved) {
            throw new IllegalStateException("nothing was saved");
        }
        now.become(saved);
        undoable = 0;
        return now.lineCount();
    }

    /** Keeps the state as it is before a change, in the room of the oldest one if all are taken. */
    private void remember() {
        if (undoable >= history.length) {
            State oldest = history[0];
            for (int i = 1; i < history.length; i++) {
                history[i - 1] = history[i];
            }
            history[history.length - 1] = oldest;
            undoable = history.length - 1;
        }
        history[undoable].become(now);
        undoable++;
    }

    private Draft draftAt(int draft) {
        if (draft < 0 || draft >= DRAFTS) {
            throw new IndexOutOfBoundsException("no such draft");
        }
        return now.drafts[draft];
    }

    private Line lineAt(int draft, int line) {
        Line found = draftAt(draft).lineOf(line);
        if (found == null) {
            throw new IndexOutOfBoundsException("no such line");
        }
        return found;
    }

    private int bestKey(Line line) {
        reading.fill(line, now);
        return scansion.search(now.metre);
    }

    private boolean fits(int key) {
        return key != NO_KEY && key >> COST_SHIFT <= now.tolerance;
    }

    private int numberOfScan(int key, int what) {
        int set = key >> SET_SHIFT & SET_BITS;
        boolean isInverted = (key & 1) == 1;
        switch (what) {
            case 0:
                return key >> COST_SHIFT;
            case 1:
                return set;
            case 2:
                return key & 1;
            case 3:
                return reading.syllables - Integer.bitCount(set);
            case 4:
                scansion.priceOf(now.metre, set, isInverted);
                return scansion.firstDearFoot();
            default:
                scansion.priceOf(now.metre, set, isInverted);
                return scansion.dearSyllables();
        }
    }

    private int sumOfShares(Draft draft, int what) {
        int sum = 0;
        for (int i = 0; i < draft.count; i++) {
            Line line = draft.lineOf(i);
            if (line != null) {
                sum += share(line, what);
            }
        }
        return sum;
    }

    /** What a line adds to an account of its draft. */
    private int share(Line line, int what) {
        reading.fill(line, now);
        int key = scansion.search(now.metre);
        boolean hasScan = key != NO_KEY;
        switch (what) {
            case 1:
                return fits(key) ? 1 : 0;
            case 2:
                return hasScan ? key >> COST_SHIFT : 0;
            case 3:
                return hasScan ? 0 : 1;
            case 5:
                return reading.syllables;
            case 6:
                return hasScan ? Integer.bitCount(key >> SET_SHIFT & SET_BITS) : 0;
            default:
                return reading.marked;
        }
    }

    private void tryCandidates(Draft draft) {
        Arrays.fill(fitting, 0);
        Arrays.fill(fittingCosts, 0);
        for (int i = 0; i < draft.count; i++) {
            Line line = draft.lineOf(i);
            if (line != null) {
                tryCandidatesOn(line);
            }
        }
    }

    private void tryCandidatesOn(Line line) {
        reading.fill(line, now);
        for (int i = 0; i < candidates.length; i++) {
            int key = scansion.search(candidates[i]);
            if (fits(key)) {
                fitting[i]++;
                fittingCosts[i] += key >> COST_SHIFT;
            }
        }
    }

    /** The candidates stand by kind and feet, so that the first one of equals is the due one. */
    private int bestCandidate() {
        int best = NONE;
        int most = 0;
        int least = 0;
        for (int i = 0; i < candidates.length; i++) {
            if (fitting[i] > most || fitting[i] == most && most > 0 && fittingCosts[i] < least) {
                best = i;
                most = fitting[i];
                least = fittingCosts[i];
            }
        }
        return best;
    }

    private int classOf(int draft, int line) {
        fillClasses(draftAt(draft));
        return line >= 0 && line < classes.length ? classes[line] : 0;
    }

    /** Fills the row of the classes and tells how many there are. */
    private int fillClasses(Draft draft) {
        int found = 0;
        for (int i = 0; i < draft.count && i < MAX_LINES; i++) {
            Line line = draft.lineOf(i);
            if (line != null) {
                rhymeStarts[i] = now.rhymeStart(line.lastWord);
                int earlier = firstWithSameRhyme(draft, line, i);
                classes[i] = earlier == NONE ? found : classes[earlier];
                found = Math.max(found, classes[i] + 1);
            }
        }
        return found;
    }

    private int firstWithSameRhyme(Draft draft, Line line, int number) {
        for (int i = 0; i < number && i < MAX_LINES; i++) {
            Line earlier = draft.lineOf(i);
            if (earlier != null && number < MAX_LINES && rhymeKind(earlier.lastWord, rhymeStarts[i],
                    line.lastWord, rhymeStarts[number]) >= 2) {
                return i;
            }
        }
        return NONE;
    }

    private int distance(Draft one, Draft other) {
        int width = Math.min(other.count, MAX_LINES);
        for (int j = 0; j <= width; j++) {
            distances[j] = ADDED_LINE * j;
        }
        for (int i = 0; i < one.count; i++) {
            int before = distances[0];
            distances[0] = ADDED_LINE * (i + 1);
            for (int j = 0; j < width; j++) {
                int changed = before + lineDifference(one.lineOf(i), other.lineOf(j));
                int moved = Math.min(distances[j], distances[j + 1]) + ADDED_LINE;
                before = distances[j + 1];
                distances[j + 1] = Math.min(changed, moved);
            }
        }
        return distances[width];
    }

    private static int lineDifference(Line one, Line other) {
        if (one == null || other == null) {
            return MAX_CHANGED_LINE;
        }
        int places = 0;
        for (int i = 0; i < Math.max(one.wordCount, other.wordCount); i++) {
            Word first = one.wordAt(i);
            Word second = other.wordAt(i);
            if (first == null || second == null || !first.isSame(second)) {
                places++;
            }
        }
        return Math.min(places, MAX_CHANGED_LINE);
    }

    private static int rhymeKind(Word one, int oneStart, Word other, int otherStart) {
        if (one.isSame(other)) {
            return 3;
        }
        if (isSameRhyme(one, oneStart, other, otherStart)) {
            return 2;
        }
        return one.vowelCode(oneStart) == other.vowelCode(otherStart) ? 1 : 0;
    }

    private static boolean isSameRhyme(Word one, int oneStart, Word other, int otherStart) {
        int length = one.sounding - oneStart;
        if (length != other.sounding - otherStart) {
            return false;
        }
        for (int i = 0; i < length; i++) {
            if (one.letterAt(oneStart + i) != other.letterAt(otherStart + i)) {
                return false;
            }
        }
        return true;
    }

    private static boolean isVowel(char letter) {
        return VOWELS.indexOf(letter) >= 0;
    }

    private static int syllablesOf(Word word, Marking marking) {
        return marking == null ? word.cores : marking.count;
    }

    private static int markOf(Word word, Marking marking, int syllable) {
        if (marking != null) {
            return marking.markAt(syllable);
        }
        if (word.cores == 1) {
            return EITHER;
        }
        int stressed = Math.max(0, word.cores - 3);
        if (syllable == stressed) {
            return STRESSED;
        }
        boolean isEven = ((syllable - stressed) & 1) == 0;
        return isEven ? EITHER : UNSTRESSED;
    }

    private static int marksAsDigits(Word word, Marking marking) {
        int number = 0;
        for (int i = 0; i < syllablesOf(word, marking); i++) {
            number = 10 * number + markOf(word, marking, i);
        }
        return number;
    }

    /** A metre; its sets of strong positions have bit i for position i. */
    private static final class Metre {
        final int kind;
        final int feet;
        final int caesura;
        final int footSize;
        final int positions;
        final int strong;
        final int invertedStrong;

        Metre(int kind, int feet, int caesura) {
            this.kind = kind;
            this.feet = feet;
            this.caesura = caesura;
            footSize = kind == IAMB || kind == TROCHEE ? 2 : 3;
            positions = feet * footSize;
            int strongInFoot = kind == IAMB || kind == ANAPEST ? footSize - 1 : 0;
            int set = 0;
            for (int foot = 0; foot < feet; foot++) {
                set |= 1 << (foot * footSize + strongInFoot);
            }
            strong = set;
            invertedStrong = set ^ (1 << strongInFoot) ^ (1 << (footSize - 1 - strongInFoot));
        }

        /** The position behind the caesura, or NONE. */
        int behindCaesura() {
            return caesura == 0 ? NONE : caesura * footSize;
        }

        int fewestSyllables() {
            boolean endsStrong = (strong >> (positions - 1) & 1) == 1;
            return endsStrong ? positions : positions - 1;
        }
    }

    /** A word and its cores. */
    private static final class Word {
        final char[] letters;
        final int cores;
        final int sounding;
        final boolean beginsWithVowel;
        final boolean endsInVowelOfCore;
        private final int[] coreStarts = new int[MAX_LETTERS];

        Word(char[] letters) {
            this.letters = letters;
            int runs = 0;
            for (int i = 0; i < letters.length && runs < coreStarts.length; i++) {
                if (isVowel(letters[i]) && (i == 0 || !isVowel(letters[i - 1]))) {
                    coreStarts[runs] = i;
                    runs++;
                }
            }
            int last = letters.length - 1;
            boolean isLastMute = runs > 1 && last > 0 && letters[last] == 'e' && !isVowel(letters[last - 1]);
            // without a run of vowels the whole word is the core, and its start is 0 in the row already
            cores = Math.max(1, isLastMute ? runs - 1 : runs);
            sounding = isLastMute ? last : letters.length;
            beginsWithVowel = last >= 0 && isVowel(letters[0]);
            endsInVowelOfCore = last >= 0 && !isLastMute && isVowel(letters[last]);
        }

        char letterAt(int i) {
            return i >= 0 && i < letters.length ? letters[i] : (char) 0;
        }

        int coreStart(int core) {
            return core >= 0 && core < coreStarts.length ? coreStarts[core] : 0;
        }

        boolean isSame(Word other) {
            if (letters.length != other.letters.length) {
                return false;
            }
            for (int i = 0; i < letters.length; i++) {
                if (letters[i] != other.letters[i]) {
                    return false;
                }
            }
            return true;
        }

        /** The vowels from a letter on, in their order, as digits of a number. */
        long vowelCode(int start) {
            long code = 0;
            for (int i = start; i < sounding; i++) {
                int vowel = VOWELS.indexOf(letterAt(i));
                if (vowel >= 0) {
                    code = 7 * code + vowel + 1;
                }
            }
            return code;
        }
    }

    /** An exception: a word and its marks. */
    private static final class Marking {
        final Word word;
        final int count;
        private final int[] marks;

        Marking(Word word, int[] marks) {
            this.word = word;
            this.marks = marks;
            count = marks.length;
        }

        int markAt(int syllable) {
            return syllable >= 0 && syllable < marks.length ? marks[syllable] : UNSTRESSED;
        }
    }

    /** A line; bit w of its commas stands for one behind word w. */
    private static final class Line {
        final char[] text;
        final int wordCount;
        final int commas;
        final Word lastWord;
        private final Word[] words;

        Line(char[] text, Word[] words, int commas, Word lastWord) {
            this.text = text;
            this.words = words;
            this.commas = commas;
            this.lastWord = lastWord;
            wordCount = words.length;
        }

        /** A word, or null if there is none with this number. */
        Word wordAt(int number) {
            return number >= 0 && number < words.length ? words[number] : null;
        }
    }

    private static final class Draft {
        private final Line[] lines = new Line[MAX_LINES];
        int count = 0;

        /** A line, or null if there is none with this number. */
        Line lineOf(int number) {
            return number >= 0 && number < count && number < MAX_LINES ? lines[number] : null;
        }

        void insert(int at, Line line) {
            if (at < 0 || at > count || count >= MAX_LINES) {
                return;
            }
            for (int i = count; i > at; i--) {
                lines[i] = lines[i - 1];
            }
            lines[at] = line;
            count++;
        }

        void put(int at, Line line) {
            if (at >= 0 && at < count) {
                lines[at] = line;
            }
        }

        void remove(int at) {
            if (at < 0 || at >= count) {
                return;
            }
            for (int i = at + 1; i < count; i++) {
                lines[i - 1] = lines[i];
            }
            count--;
            lines[count] = null;
        }

        void empty() {
            for (int i = 0; i < MAX_LINES; i++) {
                lines[i] = null;
            }
            count = 0;
        }

        void become(Draft other) {
            for (int i = 0; i < MAX_LINES; i++) {
                lines[i] = other.lines[i];
            }
            count = other.count;
        }
    }

    /** All that a change can touch and that is saved. */
    private static final class State {
        Metre metre = new Metre(IAMB, 5, 0);
        int tolerance = 6;
        final Draft[] drafts = new Draft[DRAFTS];
        int markingCount = 0;
        private final Marking[] markings = new Marking[MAX_EXCEPTIONS];

        State() {
            for (int i = 0; i < DRAFTS; i++) {
                drafts[i] = new Draft();
            }
        }

        void become(State other) {
            metre = other.metre;
            tolerance = other.tolerance;
            for (int i = 0; i < DRAFTS; i++) {
                drafts[i].become(other.drafts[i]);
            }
            for (int i = 0; i < MAX_EXCEPTIONS; i++) {
                markings[i] = other.markings[i];
            }
            markingCount = other.markingCount;
        }

        int lineCount() {
            int sum = 0;
            for (int i = 0; i < DRAFTS; i++) {
                sum += drafts[i].count;
            }
            return sum;
        }

        /** An exception, or null if there is none with this number. */
        Marking markingAt(int number) {
            return number >= 0 && number < markingCount && number < MAX_EXCEPTIONS ? markings[number] : null;
        }

        /** The number of the exception for a word, or NONE. */
        int markingNumber(Word word) {
            for (int i = 0; i < markingCount; i++) {
                Marking marking = markingAt(i);
                if (marking != null && marking.word.isSame(word)) {
                    return i;
                }
            }
            return NONE;
        }

        /** The exception for a word, or null. */
        Marking markingFor(Word word) {
            return markingAt(markingNumber(word));
        }

        void putMarking(int number, Marking marking) {
            if (number < 0 || number > markingCount || number >= MAX_EXCEPTIONS) {
                return;
            }
            markings[number] = marking;
            markingCount = Math.max(markingCount, number + 1);
        }

        void removeMarking(int number) {
            if (number < 0 || number >= markingCount) {
                return;
            }
            for (int i = number + 1; i < markingCount; i++) {
                markings[i - 1] = markings[i];
            }
            markingCount--;
            markings[markingCount] = null;
        }

        /** The position in a last word at which the rhyme begins. */
        int rhymeStart(Word word) {
            Marking marking = markingFor(word);
            int last = syllablesOf(word, marking) - 1;
            int stressed = last;
            while (stressed > 0 && markOf(word, marking, stressed) != STRESSED) {
                stressed--;
            }
            boolean hasStress = markOf(word, marking, stressed) == STRESSED;
            int before = hasStress ? last - stressed : 0;
            return word.coreStart(Math.max(0, word.cores - 1 - before));
        }
    }

    /** The text that was fed, and a cursor that stays where a text cannot go on. */
    private static final class Input {
        private final char[] characters = new char[MAX_INPUT];
        private final int[] wordStarts = new int[MAX_WORDS];
        private final int[] wordEnds = new int[MAX_WORDS];
        private int cursor = 0;
        int length = 0;
        int error = NONE;

        int append(char character) {
            if (length < characters.length) {
                characters[length] = character;
                length++;
            }
            return length;
        }

        /** The line that the input holds, or null; the input is empty then. */
        Line takeLine() {
            cursor = 0;
            Line read = parseLine();
            close(read != null);
            return read;
        }

        /** The metre that the input holds, or null; the input is empty then. */
        Metre takeMetre() {
            cursor = 0;
            Metre read = parseMetre();
            close(read != null);
            return read;
        }

        /** The exception that the input holds, or null; the input is empty then. */
        Marking takeMarking() {
            cursor = 0;
            Marking read = parseMarking();
            close(read != null);
            return read;
        }

        private void close(boolean isRight) {
            if (!isRight) {
                error = cursor;
            }
            length = 0;
        }

        private Line parseLine() {
            int commas = 0;
            for (int words = 0; words < MAX_WORDS; words++) {
                wordStarts[words] = cursor;
                if (passLetters() == 0) {
                    return null;
                }
                wordEnds[words] = cursor;
                if (pass(',')) {
                    commas |= 1 << words;
                }
                if (isAtEnd()) {
                    return lineOf(words + 1, commas);
                }
                if (!pass(' ')) {
                    return null;
                }
            }
            return null;
        }

        private Line lineOf(int count, int commas) {
            Word[] words = new Word[count];
            Word last = null;
            for (int i = 0; i < count && i < MAX_WORDS; i++) {
                last = new Word(copyOf(wordStarts[i], wordEnds[i]));
                words[i] = last;
            }
            return last == null ? null : new Line(copyOf(0, length), words, commas, last);
        }

        private Metre parseMetre() {
            int kind = kindFrom(characterAt(0));
            if (kind == NONE || !passAll(nameOf(kind)) || !pass(' ')) {
                return null;
            }
            int feet = passDigit(MIN_FEET, MAX_FEET);
            if (feet == NONE) {
                return null;
            }
            int caesura = 0;
            if (pass('/')) {
                caesura = passDigit(1, feet - 1);
            }
            return caesura != NONE && isAtEnd() ? new Metre(kind, feet, caesura) : null;
        }

        private Marking parseMarking() {
            int letters = passLetters();
            if (letters == 0 || !pass(' ')) {
                return null;
            }
            int start = cursor;
            int count = 0;
            while (count < MAX_MARKS && passDigit(UNSTRESSED, STRESSED) != NONE) {
                count++;
            }
            if (count == 0 || !isAtEnd()) {
                return null;
            }
            int[] marks = new int[count];
            for (int i = 0; i < count; i++) {
                marks[i] = characterAt(start + i) - '0';
            }
            return new Marking(new Word(copyOf(0, letters)), marks);
        }

        /** Every kind has a first letter of its own. */
        private static int kindFrom(char first) {
            for (int kind = 0; kind < KINDS; kind++) {
                if (nameOf(kind).charAt(0) == first) {
                    return kind;
                }
            }
            return NONE;
        }

        private static String nameOf(int kind) {
            switch (kind) {
                case IAMB:
                    return "iamb";
                case TROCHEE:
                    return "trochee";
                case ANAPEST:
                    return "anapest";
                default:
                    return "dactyl";
            }
        }

        private char[] copyOf(int start, int end) {
            char[] copy = new char[Math.max(0, end - start)];
            for (int i = 0; i < copy.length; i++) {
                copy[i] = characterAt(start + i);
            }
            return copy;
        }

        /** A character of the text, or one that no text can hold. */
        private char characterAt(int position) {
            boolean isInside = position >= 0 && position < length && position < characters.length;
            return isInside ? characters[position] : (char) 0;
        }

        private boolean isAtEnd() {
            return cursor >= length;
        }

        private boolean pass(char expected) {
            if (isAtEnd() || characterAt(cursor) != expected) {
                return false;
            }
            cursor++;
            return true;
        }

        private boolean passAll(String expected) {
            for (int i = 0; i < expected.length(); i++) {
                if (!pass(expected.charAt(i))) {
                    return false;
                }
            }
            return true;
        }

        /** Passes the letters of a word and tells how many they are. */
        private int passLetters() {
            int passed = 0;
            while (passed < MAX_LETTERS && characterAt(cursor) >= 'a' && characterAt(cursor) <= 'z') {
                cursor++;
                passed++;
            }
            return passed;
        }

        /** Passes a digit of a range and tells it, or NONE. */
        private int passDigit(int least, int greatest) {
            int digit = characterAt(cursor) - '0';
            if (digit < least || digit > greatest) {
                return NONE;
            }
            cursor++;
            return digit;
        }
    }

    /** A line as syllables with marks, by rules and exceptions; its rows are filled anew for each line. */
    private static final class Reading {
        int words = 0;
        int syllables = 0;
        int places = 0;
        int commas = 0;
        int marked = 0;
        int mostElisions = 0;
        private final int[] counts = new int[MAX_WORDS];
        private final int[] marks = new int[MAX_WORDS * MAX_MARKS];

        void fill(Line line, State state) {
            words = 0;
            syllables = 0;
            places = 0;
            commas = line.commas;
            marked = 0;
            for (int i = 0; i < line.wordCount && i < MAX_WORDS; i++) {
                Word word = line.wordAt(i);
                if (word != null) {
                    fillWord(i, word, state.markingAt(state.markingNumber(word)));
                    addPlace(i, word, line.wordAt(i + 1));
                }
            }
            mostElisions = countMostElisions();
        }

        private void fillWord(int number, Word word, Marking marking) {
            if (number < 0 || number >= MAX_WORDS) {
                return;
            }
            int count = Math.min(syllablesOf(word, marking), MAX_MARKS);
            counts[number] = count;
            for (int i = 0; i < count; i++) {
                marks[number * MAX_MARKS + i] = markOf(word, marking, i);
            }
            words++;
            syllables += count;
            marked += marking == null ? 0 : 1;
        }

        private void addPlace(int number, Word word, Word next) {
            if (next != null && !hasCommaBehind(number) && word.endsInVowelOfCore && next.beginsWithVowel) {
                places |= 1 << number;
            }
        }

        int countOf(int word) {
            return word >= 0 && word < MAX_WORDS ? counts[word] : 0;
        }

        int markAt(int word, int syllable) {
            int at = word * MAX_MARKS + syllable;
            return at >= 0 && at < marks.length ? marks[at] : UNSTRESSED;
        }

        boolean hasCommaBehind(int word) {
            return (commas >> word & 1) == 1;
        }

        boolean hasPlace(int place) {
            return (places >> place & 1) == 1;
        }

        /** Whether a word can be elided with the next one, as it is or is not with the one before. */
        boolean canElide(int word, boolean isElidedBefore) {
            return hasPlace(word) && !(isElidedBefore && countOf(word) == 1);
        }

        boolean hasTooFew(Metre metre) {
            return syllables < metre.fewestSyllables();
        }

        boolean hasTooMany(Metre metre) {
            return syllables - mostElisions > metre.positions + 1;
        }

        private int countMostElisions() {
            int made = 0;
            boolean isElided = false;
            for (int i = 0; i < words; i++) {
                isElided = canElide(i, isElided);
                made += isElided ? 1 : 0;
            }
            return made;
        }

        boolean allows(int set) {
            if ((set & ~places) != 0) {
                return false;
            }
            boolean isElided = false;
            for (int i = 0; i < words; i++) {
                boolean isWanted = (set >> i & 1) == 1;
                if (isWanted && !canElide(i, isElided)) {
                    return false;
                }
                isElided = isWanted;
            }
            return true;
        }
    }

    /**
     * The scans of a line by a metre. The search goes from word to word; place 2 * s + e of its rows
     * stands for all choices by which the next word begins with syllable s and is elided (e = 1) or
     * not with the word before it: the least key of them, and how many they are.
     */
    private static final class Scansion {
        private static final int ROW = 2 * (MAX_POSITIONS + 2);

        private final Reading reading;
        private final int[] prices = new int[MAX_POSITIONS + 1];
        private int[] keys = new int[ROW];
        private int[] ways = new int[ROW];
        private int[] nextKeys = new int[ROW];
        private int[] nextWays = new int[ROW];
        private Metre metre = new Metre(IAMB, MIN_FEET, 0);
        private int strong = 0;
        int found = 0;

        Scansion(Reading reading) {
            this.reading = reading;
        }

        /** The key of the best scan, or NO_KEY; the number of all scans is found then. */
        int search(Metre metre) {
            found = 0;
            int best = NO_KEY;
            if (reading.hasTooFew(metre) || reading.hasTooMany(metre)) {
                return best;
            }
            for (int inversion = 0; inversion <= 1; inversion++) {
                begin(metre, inversion == 1);
                Arrays.fill(keys, NO_KEY);
                Arrays.fill(ways, 0);
                keys[0] = inversion * INVERSION_KEY;
                ways[0] = 1;
                for (int word = 0; word < reading.words; word++) {
                    stepOver(word);
                }
                best = Math.min(best, bestAtEnd());
            }
            return best;
        }

        private void begin(Metre metre, boolean isInverted) {
            this.metre = metre;
            strong = isInverted ? metre.invertedStrong : metre.strong;
            Arrays.fill(prices, 0);
        }

        private void stepOver(int word) {
            Arrays.fill(nextKeys, NO_KEY);
            Arrays.fill(nextWays, 0);
            for (int from = 0; from < ROW; from++) {
                boolean isElidedBefore = (from & 1) == 1;
                if (keys[from] != NO_KEY) {
                    extend(from, word, 0, wordPrice(word, from >> 1, isElidedBefore, false));
                    if (reading.canElide(word, isElidedBefore)) {
                        extend(from, word, 1, wordPrice(word, from >> 1, isElidedBefore, true));
                    }
                }
            }
            int[] oldKeys = keys;
            keys = nextKeys;
            nextKeys = oldKeys;
            int[] oldWays = ways;
            ways = nextWays;
            nextWays = oldWays;
        }

        private void extend(int from, int word, int elided, int price) {
            int to = 2 * ((from >> 1) + reading.countOf(word) - elided) + elided;
            if (price == NONE || from < 0 || from >= ROW || to < 0 || to >= ROW) {
                return;
            }
            int elision = ELISION_KEY + (1 << (word + SET_SHIFT));
            int key = keys[from] + (price << COST_SHIFT) + elided * elision;
            nextKeys[to] = Math.min(nextKeys[to], key);
            nextWays[to] += ways[from];
        }

        private int bestAtEnd() {
            int best = NO_KEY;
            for (int count = 0; 2 * count < ROW; count++) {
                int price = endPrice(count);
                if (price != NONE && keys[2 * count] != NO_KEY) {
                    best = Math.min(best, keys[2 * count] + (price << COST_SHIFT));
                    found += ways[2 * count];
                }
            }
            return best;
        }

        /**
         * What a word costs whose first syllable has a number, or NONE where it cannot stand.
         * A syllable that is elided with the next word is paid for there.
         */
        private int wordPrice(int word, int start, boolean isElidedBefore, boolean isElided) {
            int count = reading.countOf(word);
            int sum = 0;
            for (int i = 0; i < count; i++) {
                boolean joinsBefore = i == 0 && isElidedBefore;
                boolean joinsNext = i == count - 1 && isElided;
                if (start + i == metre.behindCaesura()) {
                    if (i > 0 || joinsBefore || joinsNext) {
                        return NONE;
                    }
                    sum += reading.hasCommaBehind(word - 1) ? 0 : 1;
                }
                if (!joinsNext) {
                    int mark = reading.markAt(word, i);
                    if (joinsBefore) {
                        mark = Math.max(mark, reading.markAt(word - 1, reading.countOf(word - 1) - 1));
                    }
                    int price = syllablePrice(start + i, mark);
                    if (price == NONE) {
                        return NONE;
                    }
                    sum += price;
                }
            }
            return sum;
        }

        /** What a syllable costs by its mark, or NONE where it cannot stand; it is kept in the prices. */
        private int syllablePrice(int number, int mark) {
            if (number < 0 || number > metre.positions || number >= prices.length) {
                return NONE;
            }
            int price = 0;
            if (number == metre.positions) {
                price = mark == STRESSED ? NONE : 0;
            } else if ((strong >> number & 1) == 1) {
                price = mark == UNSTRESSED ? 4 : 0;
            } else {
                price = mark == STRESSED ? 3 : 0;
            }
            prices[number] = price;
            return price;
        }

        /** What a number of syllables costs, or NONE if no scan has so many. */
        private int endPrice(int count) {
            if (count == metre.positions) {
                return 0;
            }
            return count == metre.positions + 1 || count == metre.fewestSyllables() ? 1 : NONE;
        }

        /** The cost of one scan, or NONE if it is none; what its syllables cost is kept in the prices. */
        int priceOf(Metre metre, int set, boolean isInverted) {
            begin(metre, isInverted);
            int sum = isInverted ? 2 : 0;
            int start = 0;
            boolean isElidedBefore = false;
            for (int word = 0; word < reading.words; word++) {
                boolean isElided = (set >> word & 1) == 1;
                int price = wordPrice(word, start, isElidedBefore, isElided);
                if (price == NONE) {
                    return NONE;
                }
                sum += isElided ? price + 2 : price;
                start += isElided ? reading.countOf(word) - 1 : reading.countOf(word);
                isElidedBefore = isElided;
            }
            int price = endPrice(start);
            return price == NONE ? NONE : sum + price;
        }

        /** The first foot with a syllable that costs by its mark, or NONE, after priceOf. */
        int firstDearFoot() {
            int position = 0;
            for (int foot = 0; foot < metre.feet; foot++) {
                for (int i = 0; i < metre.footSize && position < prices.length; i++) {
                    if (prices[position] > 0) {
                        return foot;
                    }
                    position++;
                }
            }
            return NONE;
        }

        int dearSyllables() {
            int sum = 0;
            for (int i = 0; i < prices.length; i++) {
                sum += prices[i] > 0 ? 1 : 0;
            }
            return sum;
        }
    }
}
