/** The largest terms, words and traces that the document allows, held against the plain Model. */
public final class LargeTest {
    private LargeTest() {
    }

    public static void main(String[] args) {
        deepPile();
        manyEithers();
        manyKnots();
        nullableEnds();
        fullTree();
        brackets();
        oneDeepTerm();
        Check.end();
    }

    /** Each letter leaves as many second parts behind as 48 terms can: all of them wait at once. */
    private static void deepPile() {
        StringBuilder text = new StringBuilder();
        text.append("W|1");
        text.append(".".repeat(21)).append("0w").append("e".repeat(20));
        compare(text.toString(), "0".repeat(39) + "1", 16);
        compare(text.toString(), "0".repeat(40), 16);
    }

    /** A chain of eithers is gone through for each letter. */
    private static void manyEithers() {
        compare("W" + "|".repeat(21) + ".0we" + "n".repeat(20), "0".repeat(40), 16);
        compare("W" + "|n".repeat(21) + "|.0we", "0".repeat(40), 16);
    }

    private static void manyKnots() {
        compare("W|e.0X|e.1Y|e.2w", "012".repeat(13) + "0", 16);
        compare("W|e.0X|w.1Y|x.2y", "0".repeat(10) + "1" + "2".repeat(20), 16);
        compare("WXY|.0w|.1x|.2ye", "0120120120120120120120120120120120120120", 10);
        compare("W|3.0.X|4.1.wxw", "0143", 12);
        compare("W|3.0.ww", "0".repeat(19) + "3".repeat(20), 16);
    }

    /** Behind each letter there are nullable parts, one in another, that read nothing. */
    private static void nullableEnds() {
        compare("W|7" + ".".repeat(11) + "0w" + "|en|ne".repeat(5), "0".repeat(39) + "7", 16);
        compare("W|7" + ".".repeat(11) + "0w" + "|en|ne".repeat(5), "0".repeat(40), 16);
        compare(".......0|1e|2e|3e|4e|5e|6e|7e", "01234567", 8);
    }

    private static void fullTree() {
        compare(tree(0, 4), "0".repeat(16), 16);
        compare("W|e." + "|".repeat(7) + "01234567" + "w", "0123456701234567012345670123456701234567", 16);
    }

    private static String tree(int from, int depth) {
        return depth == 0 ? "" + from : "." + tree(from, depth - 1) + tree(from, depth - 1);
    }

    private static void brackets() {
        compare("W|..0w.1we", "0".repeat(20) + "1".repeat(20), 16);
        compare("W|..0w.1w|..2w.3w|..4w.5we", "0244553102445531001122334455", 16);
    }

    /** A term of 24 levels, to the left, and to the right. */
    private static void oneDeepTerm() {
        compare(".".repeat(23) + "0".repeat(24), "0".repeat(24), 16);
        compare(".0".repeat(23) + "0", "0".repeat(24), 16);
        compare(".0".repeat(23) + "0", "0".repeat(23), 16);
        compare(".0".repeat(15) + "0", "0".repeat(16), 16);
    }

    /** Reads a word, and finds words of up to so many letters, which must be read, and in order. */
    private static void compare(String text, String word, int most) {
        GuardedGrammar x = new GuardedGrammar();
        int root = Check.build(x, text);
        Model model = new Model(parse(text));
        Check.answers("fault of " + text, model.fault, () -> x.fault(root));
        if (model.fault != 0) {
            Check.holds("typed: " + text, false);
            return;
        }
        compareRead(x, root, model, word);
        for (int n = 0; n <= most; n++) {
            int length = n;
            long all = x.count(root, n);
            if (n < 5) {
                long due = model.words(n).stream().filter(each -> each.length() == length).count();
                Check.answers("count in " + text, due, () -> all);
            }
            String before = "";
            for (long number = 0; number < all; number += 1 + all / 50) {
                x.find(root, n, number);
                String found = Check.word(x);
                Check.holds("in order: " + found, number == 0 || before.compareTo(found) < 0);
                compareRead(x, root, model, found);
                Check.holds("is a word: " + found, model.read(found) < 0);
                before = found;
            }
        }
    }

    private static void compareRead(GuardedGrammar x, int root, Model model, String word) {
        Check.spell(x, word);
        int stop = model.read(word);
        if (stop < 0) {
            Check.answers("visits of " + word, model.visits, () -> x.read(root));
            Check.same("trace of " + word, model.trace.toString(), Check.trace(x));
        } else {
            Check.fails("read of " + word, IllegalArgumentException.class, () -> x.read(root));
        }
        Check.answers("stopped in " + word, stop, x::stopped);
    }

    private static Model.Term parse(String text) {
        int[] at = {0};
        int[] number = {0};
        return parse(text, at, number);
    }

    private static Model.Term parse(String text, int[] at, int[] number) {
        char sign = text.charAt(at[0]++);
        Model.Term a = null;
        Model.Term b = null;
        if (sign == '.' || sign == '|') {
            a = parse(text, at, number);
            b = parse(text, at, number);
        } else if (sign >= 'W' && sign <= 'Z') {
            a = parse(text, at, number);
        }
        return new Model.Term(number[0]++, sign, a, b);
    }
}
