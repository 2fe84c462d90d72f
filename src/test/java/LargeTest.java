/** The largest terms, words and traces that the document allows, held against the plain Model. */
public final class LargeTest {
    private final String text;
    private final Model model;
    private Counted x = new Counted();
    private int root;

    private LargeTest(String text) {
        this.text = text;
        model = new Model(parse(text));
        root = Check.build(x, text);
    }

    public static void main(String[] args) {
        deepPile();
        manyEithers();
        manyKnots();
        nullableEnds();
        fullTree();
        brackets();
        oneDeepTerm();
        Check.end();
    }

    /** Each letter leaves as many second parts behind as 48 terms can: all of them wait at once. */
    private static void deepPile() {
        StringBuilder text = new StringBuilder();
        text.append("W|1");
        text.append(".".repeat(21)).append("0w").append("e".repeat(20));
        compare(text.toString(), "0".repeat(39) + "1", 16);
        compare(text.toString(), "0".repeat(40), 16);
    }

    /** A chain of eithers is gone through for each letter. */
    private static void manyEithers() {
        compare("W" + "|".repeat(21) + ".0we" + "n".repeat(20), "0".repeat(40), 16);
        compare("W" + "|n".repeat(21) + "|.0we", "0".repeat(40), 16);
    }

    private static void manyKnots() {
        compare("W|e.0X|e.1Y|e.2w", "012".repeat(13) + "0", 16);
        compare("W|e.0X|w.1Y|x.2y", "0".repeat(10) + "1" + "2".repeat(20), 16);
        compare("WXY|.0w|.1x|.2ye", "0120120120120120120120120120120120120120", 10);
        compare("W|3.0.X|4.1.wxw", "0143", 12);
        compare("W|3.0.ww", "0".repeat(19) + "3".repeat(20), 16);
    }

    /** Behind each letter there are nullable parts, one in another, that read nothing. */
    private static void nullableEnds() {
        compare("W|7" + ".".repeat(11) + "0w" + "|en|ne".repeat(5), "0".repeat(39) + "7", 16);
        compare("W|7" + ".".repeat(11) + "0w" + "|en|ne".repeat(5), "0".repeat(40), 16);
        compare(".......0|1e|2e|3e|4e|5e|6e|7e", "01234567", 8);
    }

    private static void fullTree() {
        compare(tree(0, 4), "0".repeat(16), 16);
        compare("W|e." + "|".repeat(7) + "01234567" + "w", "0123456701234567012345670123456701234567", 16);
    }

    private static String tree(int from, int depth) {
        return depth == 0 ? "" + from : "." + tree(from, depth - 1) + tree(from, depth - 1);
    }

    private static void brackets() {
        compare("W|..0w.1we", "0".repeat(20) + "1".repeat(20), 16);
        compare("W|..0w.1w|..2w.3w|..4w.5we", "0244553102445531001122334455", 16);
    }

    /** A term of 24 levels, to the left, and to the right. */
    private static void oneDeepTerm() {
        compare(".".repeat(23) + "0".repeat(24), "0".repeat(24), 16);
        compare(".0".repeat(23) + "0", "0".repeat(24), 16);
        compare(".0".repeat(23) + "0", "0".repeat(23), 16);
        compare(".0".repeat(15) + "0", "0".repeat(16), 16);
    }

    /** Reads a word, and finds words of up to so many letters, which must be read, and in order. */
    private static void compare(String text, String word, int most) {
        LargeTest test = new LargeTest(text);
        Check.answers("fault of " + text, test.model.fault, () -> test.x.fault(test.root));
        if (test.model.fault != 0) {
            Check.holds("typed: " + text, false);
            return;
        }
        test.compareRead(word);
        for (int n = 0; n <= most; n++) {
            test.compareWords(n);
        }
    }

    private void compareWords(int n) {
        roomFor(1);
        long all = x.count(root, n);
        if (n < 5) {
            long due = model.words(n).stream().filter(each -> each.length() == n).count();
            Check.answers("count in " + text, due, () -> all);
        }
        String before = "";
        for (long number = 0; number < all; number += 1 + all / 50) {
            roomFor(n + 2);
            x.find(root, n, number);
            String found = Check.word(x);
            Check.holds("in order: " + found, number == 0 || before.compareTo(found) < 0);
            compareRead(found);
            Check.holds("is a word: " + found, model.read(found) < 0);
            before = found;
        }
    }

    private void compareRead(String word) {
        int stop = model.read(word);
        roomFor(word.length() + 4);
        Check.spell(x, word);
        if (stop < 0) {
            Check.answers("visits of " + word, model.visits, () -> x.read(root));
            Check.answers("steps of " + word, model.trace.length(), x::trace);
        } else {
            Check.fails("read of " + word, IllegalArgumentException.class, () -> x.read(root));
        }
        Check.answers("stopped in " + word, stop, x::stopped);
        if (stop < 0) {
            compareSteps(word, model.trace.toString());
        }
    }

    /** A trace can be longer than an object's calls: then it is read once more by another object. */
    private void compareSteps(String word, String due) {
        StringBuilder steps = new StringBuilder();
        for (int i = 0; i < due.length(); i++) {
            if (x.left() == 0) {
                roomFor(1);
                Check.spell(x, word);
                x.read(root);
            }
            steps.append(x.step(i));
        }
        Check.same("trace of " + word, due, steps.toString());
    }

    /** The same term in a new object, if the old one can't be called so often any more. */
    private void roomFor(int calls) {
        if (x.left() < calls) {
            x = new Counted();
            root = Check.build(x, text);
        }
    }

    private static Model.Term parse(String text) {
        int[] at = {0};
        int[] number = {0};
        return parse(text, at, number);
    }

    private static Model.Term parse(String text, int[] at, int[] number) {
        char sign = text.charAt(at[0]++);
        Model.Term a = null;
        Model.Term b = null;
        if (sign == '.' || sign == '|') {
            a = parse(text, at, number);
            b = parse(text, at, number);
        } else if (sign >= 'W' && sign <= 'Z') {
            a = parse(text, at, number);
        }
        return new Model.Term(number[0]++, sign, a, b);
    }
}
