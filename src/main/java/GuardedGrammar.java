import java.util.NoSuchElementException;

/**
 * Grammars are terms that are put together; a term that has a type can be read without ever going
 * back, and its words can be counted, and found by their numbers.
 */
public final class GuardedGrammar {
    public static final int NONE = -1;

    private static final int LETTERS = 8;
    private static final int VARIABLES = 4;
    private static final int MOST_TERMS = 48;
    private static final int MOST_KNOTS = 3;
    private static final int MOST_LETTERS = 40;
    private static final int MOST_COUNTED = 16;

    private static final int LEAF_EMPTY = -1;
    private static final int LEAF_NONE = -2;

    private static final int EMPTY = 0;
    private static final int NOTHING = 1;
    private static final int LETTER = 2;
    private static final int PAIR = 3;
    private static final int EITHER = 4;
    private static final int VARIABLE = 5;
    private static final int KNOT = 6;

    private static final int UNBOUND = 1;
    private static final int UNGUARDED = 2;
    private static final int LOOSE = 3;
    private static final int DOUBLE = 4;
    private static final int FAULTS = 8;

    // Each pass but the last finds one more thing of a type: that it is nullable, or one letter.
    private static final int MOST_PASSES = MOST_TERMS * (1 + 2 * LETTERS) + 1;

    // A pair has two parts of its own. On the way down to one letter no term comes twice: what
    // leads from a knot to its own variable goes by a second part, and so behind a letter.
    private static final int MOST_PAIRS = (MOST_TERMS - 1) / 2;
    private static final int MOST_WAITING = (MOST_LETTERS + 1) * MOST_PAIRS + 2;
    private static final int MOST_PILED = MOST_COUNTED * MOST_PAIRS + 1;

    // Both stand far above what a word of 40 letters can need.
    private static final int MOST_VISITS = 1000000;
    private static final int MOST_STEPS = 16384;

    private final Terms terms = new Terms();
    private final Typing typing = new Typing(terms);
    private final Word word = new Word();
    private final Reader reader = new Reader(terms, typing);
    private final Tally tally = new Tally(terms, typing);
    private final Speller speller = new Speller(terms, typing, tally);
    private int stopped = NONE;

    public GuardedGrammar() {
    }

    public int leaf(int what) throws IllegalArgumentException, UnsupportedOperationException {
        if (what < LEAF_NONE || what >= LETTERS) {
            throw new IllegalArgumentException();
        }
        needRoom();
        if (what == LEAF_EMPTY) {
            return terms.add(EMPTY, 0, NONE, NONE);
        }
        if (what == LEAF_NONE) {
            return terms.add(NOTHING, 0, NONE, NONE);
        }
        return terms.add(LETTER, what, NONE, NONE);
    }

    public int variable(int v) throws IllegalArgumentException, UnsupportedOperationException {
        needVariable(v);
        needRoom();
        return terms.add(VARIABLE, v, NONE, NONE);
    }

    public int join(int a, int b, boolean either)
            throws IndexOutOfBoundsException, IllegalStateException, UnsupportedOperationException {
        needTerm(a);
        needTerm(b);
        if (a == b || terms.isPart(a) || terms.isPart(b)) {
            throw new IllegalStateException();
        }
        needRoom();
        return terms.add(either ? EITHER : PAIR, 0, a, b);
    }

    public int knot(int v, int a)
            throws IndexOutOfBoundsException, IllegalStateException, IllegalArgumentException,
            UnsupportedOperationException {
        needTerm(a);
        if (terms.isPart(a)) {
            throw new IllegalStateException();
        }
        needVariable(v);
        needRoom();
        if (terms.knotsIn(a) >= MOST_KNOTS) {
            throw new UnsupportedOperationException();
        }
        return terms.add(KNOT, v, a, NONE);
    }

    public void clear() {
        terms.forgetAll();
    }

    public int terms() {
        return terms.size();
    }

    public int fault(int term) throws IndexOutOfBoundsException {
        needTerm(term);
        typing.study(term);
        return typing.firstFault();
    }

    public int type(int term, int part) throws IndexOutOfBoundsException, IllegalStateException {
        needTerm(term);
        if (part < 0 || part > 2) {
            throw new IndexOutOfBoundsException();
        }
        needTyped(term);
        if (part == 0) {
            return typing.isNullable(term) ? 1 : 0;
        }
        return part == 1 ? typing.firstOf(term) : typing.afterOf(term);
    }

    public boolean put(int letter) {
        if (letter < 0 || letter >= LETTERS || word.isFull()) {
            return false;
        }
        word.add(letter);
        return true;
    }

    public boolean cut(int n) {
        if (n < 0 || n > word.size()) {
            return false;
        }
        word.keep(n);
        return true;
    }

    public int length() {
        return word.size();
    }

    public int letter(int i) throws IndexOutOfBoundsException {
        if (i < 0 || i >= word.size()) {
            throw new IndexOutOfBoundsException();
        }
        return word.at(i);
    }

    public int read(int term)
            throws IndexOutOfBoundsException, IllegalStateException, IllegalArgumentException {
        needTerm(term);
        needTyped(term);
        if (!reader.reads(term, word)) {
            stopped = reader.place();
            throw new IllegalArgumentException();
        }
        stopped = NONE;
        reader.keepSteps();
        return reader.visits();
    }

    public int stopped() {
        return stopped;
    }

    public int trace() {
        return reader.kept().size();
    }

    public int step(int i) throws IndexOutOfBoundsException {
        if (i < 0 || i >= reader.kept().size()) {
            throw new IndexOutOfBoundsException();
        }
        return reader.kept().at(i);
    }

    public long count(int term, int n)
            throws IndexOutOfBoundsException, IllegalStateException, IllegalArgumentException {
        countTo(term, n);
        return tally.words(term, n);
    }

    public void find(int term, int n, long number)
            throws IndexOutOfBoundsException, IllegalStateException, IllegalArgumentException,
            NoSuchElementException {
        countTo(term, n);
        if (number < 0 || number >= tally.words(term, n)) {
            throw new NoSuchElementException();
        }
        speller.spell(term, n, number, word);
    }

    private void countTo(int term, int n) {
        needTerm(term);
        needTyped(term);
        if (n < 0 || n > MOST_COUNTED) {
            throw new IllegalArgumentException();
        }
        tally.countTo(n);
    }

    private void needTerm(int term) {
        if (!terms.has(term)) {
            throw new IndexOutOfBoundsException();
        }
    }

    private void needTyped(int term) {
        typing.study(term);
        if (typing.firstFault() != 0) {
            throw new IllegalStateException();
        }
    }

    private void needVariable(int v) {
        if (v < 0 || v >= VARIABLES) {
            throw new IllegalArgumentException();
        }
    }

    private void needRoom() {
        if (terms.isFull()) {
            throw new UnsupportedOperationException();
        }
    }

    /** The terms that were made: a row for each thing that is told of them. */
    private static final class Terms {
        private final int[] kinds = new int[MOST_TERMS];
        private final int[] values = new int[MOST_TERMS];
        private final int[] lefts = new int[MOST_TERMS];
        private final int[] rights = new int[MOST_TERMS];
        private final int[] wholes = new int[MOST_TERMS];
        private final int[] knots = new int[MOST_TERMS];
        private int size = 0;

        int add(int kind, int value, int left, int right) {
            int term = size;
            size++;
            kinds[term] = kind;
            values[term] = value;
            lefts[term] = left;
            rights[term] = right;
            wholes[term] = NONE;
            knots[term] = Math.max(knotsIn(left), knotsIn(right)) + (kind == KNOT ? 1 : 0);
            makePart(left, term);
            makePart(right, term);
            return term;
        }

        private void makePart(int term, int whole) {
            if (term != NONE) {
                wholes[term] = whole;
            }
        }

        void forgetAll() {
            size = 0;
        }

        int size() {
            return size;
        }

        boolean has(int term) {
            return term >= 0 && term < size;
        }

        boolean isFull() {
            return size >= MOST_TERMS;
        }

        boolean isPart(int term) {
            return wholes[term] != NONE;
        }

        /** How many knots lie in one another in a term, itself among them; 0 for NONE. */
        int knotsIn(int term) {
            return term == NONE ? 0 : knots[term];
        }

        int kind(int term) {
            return kinds[term];
        }

        /** The letter of a letter, the variable of a variable or a knot. */
        int value(int term) {
            return values[term];
        }

        /** The first part, or the only one; NONE where there is none. */
        int left(int term) {
            return lefts[term];
        }

        int right(int term) {
            return rights[term];
        }

        int whole(int term) {
            return wholes[term];
        }
    }

    /** What holds of a term, the root, and of all in it, when the root is taken by itself. */
    private static final class Typing {
        private final Terms terms;
        private final int[] order = new int[MOST_TERMS];
        private final int[] waiting = new int[MOST_TERMS];
        private final int[] binders = new int[MOST_TERMS];
        private final boolean[] guarded = new boolean[MOST_TERMS];
        private final boolean[] nullable = new boolean[MOST_TERMS];
        private final int[] firsts = new int[MOST_TERMS];
        private final int[] afters = new int[MOST_TERMS];
        private int start = MOST_TERMS;

        Typing(Terms terms) {
            this.terms = terms;
        }

        void study(int root) {
            lineUp(root);
            for (int i = start; i < MOST_TERMS; i++) {
                bind(order[i], root);
            }
            inferTypes();
        }

        /** How many terms there are in the root, itself among them. */
        int size() {
            return MOST_TERMS - start;
        }

        /** Term i of them, from the left to the right, parts before what they are parts of. */
        int inOrder(int i) {
            return order[start + i];
        }

        boolean isNullable(int term) {
            return nullable[term];
        }

        int firstOf(int term) {
            return firsts[term];
        }

        int afterOf(int term) {
            return afters[term];
        }

        int binder(int variable) {
            return binders[variable];
        }

        /** By which part an either reads: 0 or 1, or NONE; next is the next letter's set, or 0. */
        int side(int either, int next) {
            int left = terms.left(either);
            int right = terms.right(either);
            if ((firsts[left] & next) != 0) {
                return 0;
            }
            if ((firsts[right] & next) != 0) {
                return 1;
            }
            if (nullable[left]) {
                return 0;
            }
            return nullable[right] ? 1 : NONE;
        }

        /** The fault that is met first, and 8 times its term; 0 when there is none. */
        int firstFault() {
            for (int i = start; i < MOST_TERMS; i++) {
                int found = faultAt(order[i]);
                if (found != 0) {
                    return found + FAULTS * order[i];
                }
            }
            return 0;
        }

        // The row is filled from its end: backwards, the root comes before its parts, and the
        // right part with all in it before the left one.
        private void lineUp(int root) {
            start = MOST_TERMS;
            int open = 1;
            waiting[0] = root;
            while (open > 0 && start > 0) {
                open--;
                int term = waiting[open];
                start--;
                order[start] = term;
                if (terms.left(term) != NONE) {
                    waiting[open] = terms.left(term);
                    open++;
                }
                if (terms.right(term) != NONE) {
                    waiting[open] = terms.right(term);
                    open++;
                }
            }
        }

        private void bind(int term, int root) {
            binders[term] = NONE;
            guarded[term] = false;
            if (terms.kind(term) != VARIABLE) {
                return;
            }
            int below = term;
            for (int up = 0; up < MOST_TERMS && below != root && binders[term] == NONE; up++) {
                int whole = terms.whole(below);
                if (terms.kind(whole) == PAIR && terms.right(whole) == below) {
                    guarded[term] = true;
                }
                if (terms.kind(whole) == KNOT && terms.value(whole) == terms.value(term)) {
                    binders[term] = whole;
                }
                below = whole;
            }
        }

        private void inferTypes() {
            for (int i = start; i < MOST_TERMS; i++) {
                int term = order[i];
                nullable[term] = false;
                firsts[term] = 0;
                afters[term] = 0;
            }
            boolean changed = true;
            for (int pass = 0; changed && pass < MOST_PASSES; pass++) {
                changed = false;
                for (int i = start; i < MOST_TERMS; i++) {
                    if (widen(order[i])) {
                        changed = true;
                    }
                }
            }
        }

        /** Adds to a term's type what the types of others demand; whether that was anything new. */
        private boolean widen(int term) {
            switch (terms.kind(term)) {
                case EMPTY:
                    return addToType(term, true, 0, 0);
                case LETTER:
                    return addToType(term, false, 1 << terms.value(term), 0);
                case PAIR:
                    return widenPair(term, terms.left(term), terms.right(term));
                case EITHER:
                    boolean byLeft = addTypeOf(term, terms.left(term));
                    return addTypeOf(term, terms.right(term)) || byLeft;
                case VARIABLE:
                    return addTypeOf(term, binders[term]);
                case KNOT:
                    return addTypeOf(term, terms.left(term));
                default:
                    return false;
            }
        }

        private boolean widenPair(int pair, int left, int right) {
            int first = firsts[left] | (nullable[left] ? firsts[right] : 0);
            int after = afters[right] | (nullable[right] ? firsts[right] | afters[left] : 0);
            return addToType(pair, nullable[left] && nullable[right], first, after);
        }

        private boolean addTypeOf(int term, int other) {
            return other != NONE
                    && addToType(term, nullable[other], firsts[other], afters[other]);
        }

        private boolean addToType(int term, boolean empty, int first, int after) {
            boolean isNew = (empty && !nullable[term])
                    || (first & ~firsts[term]) != 0
                    || (after & ~afters[term]) != 0;
            nullable[term] = nullable[term] || empty;
            firsts[term] |= first;
            afters[term] |= after;
            return isNew;
        }

        private int faultAt(int term) {
            switch (terms.kind(term)) {
                case VARIABLE:
                    if (binders[term] == NONE) {
                        return UNBOUND;
                    }
                    return guarded[term] ? 0 : UNGUARDED;
                case PAIR:
                    return isLoose(terms.left(term), terms.right(term)) ? LOOSE : 0;
                case EITHER:
                    return isDouble(terms.left(term), terms.right(term)) ? DOUBLE : 0;
                default:
                    return 0;
            }
        }

        private boolean isLoose(int left, int right) {
            return nullable[left] || (afters[left] & firsts[right]) != 0;
        }

        private boolean isDouble(int left, int right) {
            return (nullable[left] && nullable[right]) || (firsts[left] & firsts[right]) != 0;
        }
    }

    /** The word: a row of letters. */
    private static final class Word {
        private final int[] letters = new int[MOST_LETTERS];
        private int size = 0;

        void add(int letter) {
            letters[size] = letter;
            size++;
        }

        void keep(int n) {
            size = n;
        }

        int size() {
            return size;
        }

        boolean isFull() {
            return size >= MOST_LETTERS;
        }

        int at(int i) {
            return letters[i];
        }
    }

    /** A row of steps, each 0 or 1, 64 of them in one long. */
    private static final class Steps {
        private final long[] bits = new long[MOST_STEPS / 64];
        private int size = 0;

        void forgetAll() {
            size = 0;
        }

        void add(int step) {
            if (size >= MOST_STEPS) {
                return;
            }
            int at = size / 64;
            long bit = 1L << (size % 64);
            bits[at] = step == 1 ? bits[at] | bit : bits[at] & ~bit;
            size++;
        }

        int size() {
            return size;
        }

        int at(int i) {
            return (int) ((bits[i / 64] >>> (i % 64)) & 1L);
        }
    }

    /** Reads a word by the term that was studied last. */
    private static final class Reader {
        private final Terms terms;
        private final Typing typing;
        // Its own pile, not calls in calls: a word can lead hundreds of terms deep.
        private final int[] waiting = new int[MOST_WAITING];
        private int open = 0;
        private int place = 0;
        private int visits = 0;
        private Steps made = new Steps();
        private Steps kept = new Steps();

        Reader(Terms terms, Typing typing) {
            this.terms = terms;
            this.typing = typing;
        }

        /** Whether the word is read to its end. */
        boolean reads(int root, Word word) {
            made.forgetAll();
            place = 0;
            open = 0;
            await(root);
            for (visits = 0; open > 0 && visits < MOST_VISITS; visits++) {
                open--;
                if (!visit(waiting[open], word)) {
                    return false;
                }
            }
            return place == word.size();
        }

        /** How far the latest reading came. */
        int place() {
            return place;
        }

        int visits() {
            return visits;
        }

        /** The steps of the latest reading become those that are kept. */
        void keepSteps() {
            Steps older = kept;
            kept = made;
            made = older;
        }

        Steps kept() {
            return kept;
        }

        private void await(int term) {
            if (open < MOST_WAITING) {
                waiting[open] = term;
                open++;
            }
        }

        /** Reads by a term, or lets wait what it is read by; whether that could be done. */
        private boolean visit(int term, Word word) {
            switch (terms.kind(term)) {
                case EMPTY:
                    return true;
                case LETTER:
                    return readLetter(terms.value(term), word);
                case PAIR:
                    await(terms.right(term));
                    await(terms.left(term));
                    return true;
                case EITHER:
                    return choose(term, word);
                case VARIABLE:
                    await(typing.binder(term));
                    return true;
                case KNOT:
                    await(terms.left(term));
                    return true;
                default:
                    return false;
            }
        }

        private boolean readLetter(int letter, Word word) {
            if (place >= word.size() || word.at(place) != letter) {
                return false;
            }
            place++;
            return true;
        }

        private boolean choose(int either, Word word) {
            int next = place < word.size() ? 1 << word.at(place) : 0;
            int side = typing.side(either, next);
            if (side == NONE) {
                return false;
            }
            made.add(side);
            await(side == 0 ? terms.left(either) : terms.right(either));
            return true;
        }
    }

    /** How many words of each length the terms have that are in the term that was studied last. */
    private static final class Tally {
        private final Terms terms;
        private final Typing typing;
        private final long[][] words = new long[MOST_TERMS][MOST_COUNTED + 1];

        Tally(Terms terms, Typing typing) {
            this.terms = terms;
            this.typing = typing;
        }

        long words(int term, int length) {
            return words[term][length];
        }

        void countTo(int most) {
            for (int length = 0; length <= most; length++) {
                countLength(length);
            }
        }

        /** In how many ways a row of terms and one more behind it have each length up to most. */
        void lengthen(long[] ways, int start, int term, int most) {
            for (int length = most; length >= 0; length--) {
                long sum = 0;
                for (int behind = 0; behind <= length; behind++) {
                    sum += ways[start + length - behind] * words[term][behind];
                }
                ways[start + length] = sum;
            }
        }

        // A variable may stand in the order before what its knot needs has been counted: so the
        // terms are gone through again, till nothing changes. Guards see to it that it ends.
        private void countLength(int length) {
            for (int i = 0; i < typing.size(); i++) {
                words[typing.inOrder(i)][length] = 0;
            }
            boolean changed = true;
            for (int pass = 0; changed && pass <= MOST_TERMS; pass++) {
                changed = false;
                for (int i = 0; i < typing.size(); i++) {
                    int term = typing.inOrder(i);
                    long sum = wordsByParts(term, length);
                    changed = changed || sum != words[term][length];
                    words[term][length] = sum;
                }
            }
        }

        // No word is had in two ways: that is what types are for, and why ways can be summed.
        private long wordsByParts(int term, int length) {
            switch (terms.kind(term)) {
                case EMPTY:
                    return length == 0 ? 1 : 0;
                case LETTER:
                    return length == 1 ? 1 : 0;
                case PAIR:
                    return wordsOfPair(terms.left(term), terms.right(term), length);
                case EITHER:
                    return words[terms.left(term)][length] + words[terms.right(term)][length];
                case VARIABLE:
                    return words[typing.binder(term)][length];
                case KNOT:
                    return words[terms.left(term)][length];
                default:
                    return 0;
            }
        }

        private long wordsOfPair(int left, int right, int length) {
            long sum = 0;
            for (int before = 0; before <= length; before++) {
                sum += words[left][before] * words[right][length - before];
            }
            return sum;
        }
    }

    /** Spells words by their numbers, letter by letter: by a pile of the terms still to be read. */
    private static final class Speller {
        private static final int LENGTHS = MOST_COUNTED + 1;

        private final Terms terms;
        private final Typing typing;
        private final Tally tally;
        private final int[] pile = new int[MOST_PILED];
        private int height = 0;
        // For each height: in how many ways the terms below it have each length.
        private final long[] ways = new long[(MOST_PILED + 1) * LENGTHS];
        private final int[] fresh = new int[MOST_PAIRS];
        private int freshSize = 0;
        private final long[] ahead = new long[LENGTHS];

        Speller(Terms terms, Typing typing, Tally tally) {
            this.terms = terms;
            this.typing = typing;
            this.tally = tally;
        }

        /** The word becomes that of n letters with a number that one of them has. */
        void spell(int root, int n, long number, Word word) {
            word.keep(0);
            startPile(root, n);
            long left = number;
            for (int rest = n - 1; rest >= 0; rest--) {
                left = spellNext(rest, left, word);
            }
        }

        private void startPile(int root, int n) {
            for (int length = 0; length <= n; length++) {
                ways[length] = length == 0 ? 1 : 0;
            }
            height = 0;
            pileUp(root, n);
        }

        /** Adds the letter under which the number comes; what is left of the number there. */
        private long spellNext(int rest, long number, Word word) {
            long left = number;
            for (int letter = 0; letter < LETTERS; letter++) {
                int at = readerOf(letter);
                if (at != NONE) {
                    goDown(pile[at], letter);
                    long words = wordsAhead(at, rest);
                    if (left < words) {
                        takeFresh(at, rest);
                        word.add(letter);
                        return left;
                    }
                    left -= words;
                }
            }
            return left;
        }

        /** Where in the pile the term is that would read a letter; NONE when none would. */
        private int readerOf(int letter) {
            for (int at = height - 1; at >= 0; at--) {
                if ((typing.firstOf(pile[at]) & 1 << letter) != 0) {
                    return at;
                }
                if (!typing.isNullable(pile[at])) {
                    return NONE;
                }
            }
            return NONE;
        }

        /** Goes to the letter that a term begins with, and notes the second parts left behind. */
        private void goDown(int from, int letter) {
            freshSize = 0;
            int term = from;
            for (int met = 0; met < MOST_TERMS && terms.kind(term) != LETTER; met++) {
                if (terms.kind(term) == PAIR && freshSize < MOST_PAIRS) {
                    fresh[freshSize] = terms.right(term);
                    freshSize++;
                }
                term = below(term, letter);
            }
        }

        private int below(int term, int letter) {
            if (terms.kind(term) == VARIABLE) {
                return typing.binder(term);
            }
            if (terms.kind(term) == EITHER && typing.side(term, 1 << letter) == 1) {
                return terms.right(term);
            }
            return terms.left(term);
        }

        private long wordsAhead(int at, int rest) {
            System.arraycopy(ways, at * LENGTHS, ahead, 0, rest + 1);
            for (int i = 0; i < freshSize; i++) {
                tally.lengthen(ahead, 0, fresh[i], rest);
            }
            return ahead[rest];
        }

        private void takeFresh(int at, int rest) {
            height = at;
            for (int i = 0; i < freshSize; i++) {
                pileUp(fresh[i], rest);
            }
        }

        private void pileUp(int term, int most) {
            if (height >= MOST_PILED) {
                return;
            }
            int start = (height + 1) * LENGTHS;
            System.arraycopy(ways, height * LENGTHS, ways, start, most + 1);
            tally.lengthen(ways, start, term, most);
            pile[height] = term;
            height++;
        }
    }
}
