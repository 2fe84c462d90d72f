import java.util.ArrayList;
import java.util.List;

/** The sentences of 'What it is' and of 'Terms': inside each bound, on it, and outside it. */
final class BoundsOfTerms {
    private static final Class<IndexOutOfBoundsException> INDEX = Ask.INDEX;
    private static final Class<IllegalStateException> STATE = Ask.STATE;
    private static final Class<IllegalArgumentException> ARGUMENT = Ask.ARGUMENT;
    private static final Class<UnsupportedOperationException> ROOM = Ask.ROOM;
    private static final Class<java.util.NoSuchElementException> ELEMENT = Ask.ELEMENT;

    // As many zeros as ones behind them, or nothing.
    private static final String NESTED = "W|..0w1e";
    // All words of all letters.
    private static final String ALL = "W|e.|||01|23||45|67w";

    private static final int UNBOUND = 1;
    private static final int UNGUARDED = 2;
    private static final int LOOSE = 3;
    private static final int DOUBLE = 4;

    private BoundsOfTerms() {
    }

    static void testAll() {
        whatItIs();
        terms();
        words();
        types();
        pairTypes();
        typed();
        reading();
        told();
        refusals();
    }

    private static void sentence(String words, Check.Act test) {
        Sentences.test("Terms", words, test);
    }

    private static void whatItIs() {
        Sentences.test("What it is",
                "Grammars are terms that are put together; a type tells of each what its words may begin with and"
                        + " what may go on behind them, and a term that has one can be read without ever going back,"
                        + " in just one way; its words can be counted, and found by their numbers.",
                BoundsOfTerms::grammars);
        Sentences.test("What it is",
                "An object is used for at most 512 calls after it has been made; what later calls answer is free.",
                BoundsOfTerms::calls);
    }

    private static void grammars() {
        for (String text : new String[] {NESTED, "W|0.2.X|1.wx3", "W|..0w.1we", "..0|1e|2.33", "|e.0|1.2|0e"}) {
            Counted x = new Counted();
            int root = Check.build(x, text);
            List<String> words = new ArrayList<>();
            for (int n = 0; n < 7; n++) {
                for (long number = 0; number < x.count(root, n); number++) {
                    x.find(root, n, number);
                    words.add(Check.word(x));
                    Check.holds(text + " reads " + Check.word(x), x.read(root) > 0);
                }
            }
            Check.holds("words of " + text, words.size() > 1);
            Check.answers("each once: " + text, words.size(), () -> words.stream().distinct().count());
            tellsOf(x, root, words);
        }
    }

    /** What words begin with is in FIRST, what goes on behind them is in AFTER. */
    private static void tellsOf(Counted x, int root, List<String> words) {
        for (String word : words) {
            for (String longer : words) {
                if (longer.length() > word.length() && longer.startsWith(word)) {
                    int letters = x.type(root, word.isEmpty() ? 1 : 2);
                    int next = 1 << (longer.charAt(word.length()) - '0');
                    Check.holds(longer + " goes on behind " + word, (letters & next) != 0);
                }
            }
        }
    }

    // Each row of calls goes on to the 512th one.
    private static void calls() {
        Counted puts = new Counted();
        for (int call = 1; puts.left() > 0; call++) {
            Check.answers("put, call " + call, call <= 40 ? 1 : 0, () -> puts.put(7) ? 1 : 0);
        }
        Counted leaves = new Counted();
        for (int call = 1; leaves.left() > 0; call++) {
            if (call % 49 == 0) {
                leaves.clear();
            } else {
                Check.answers("leaf, call " + call, call % 49 - 1, () -> leaves.leaf(0));
            }
        }
        Counted asked = new Counted();
        int nested = Check.build(asked, NESTED);
        while (asked.left() > 0) {
            Check.answers("fault, " + asked.left() + " left", 0, () -> asked.fault(nested));
            Check.answers("type, " + asked.left() + " left", 1, () -> asked.type(nested, asked.left() % 2));
        }
        callsForWords();
    }

    private static void callsForWords() {
        Counted reads = new Counted();
        int row = Check.build(reads, "W|e.0w");
        Check.spell(reads, "0".repeat(40));
        while (reads.left() > 0) {
            Check.answers("read, " + reads.left() + " left", 40 * 5 + 3, () -> reads.read(row));
        }
        Counted counts = new Counted();
        int counted = Check.build(counts, ALL);
        while (counts.left() > 0) {
            int n = counts.left() % 17;
            Check.answers("count, " + counts.left() + " left", 1L << 3 * n, () -> counts.count(counted, n));
        }
        Counted finds = new Counted();
        int found = Check.build(finds, ALL);
        while (finds.left() > 0) {
            int left = finds.left();
            finds.find(found, 16, 01111111111111111L * (left / 2 % 8));
            Check.answers("find, " + left + " left", left / 2 % 8, () -> finds.letter(left % 16));
        }
        Counted only = new Counted();
        int term = Check.build(only, ALL);
        while (only.left() > 2) {
            only.find(term, 16, only.left());
        }
        only.find(term, 16, 05000000000000000L);
        Check.answers("call 512, behind finds only", 5, () -> only.letter(0));
    }

    private static void terms() {
        sentence("LETTERS are 0 .. 7, WORDS rows of letters.", BoundsOfTerms::letters);
        sentence("TERMS are numbered 0, 1, .. as they are made, 48 at most;", BoundsOfTerms::numbers);
        sentence("a term is made of others, its PARTS, which were made before and are no part yet.",
                BoundsOfTerms::parts);
        sentence("The kinds are: EMPTY; NONE; a LETTER; a PAIR (two parts, first and second); an EITHER (two parts);"
                + " a VARIABLE 0 .. 3; a KNOT (a variable and one part).", BoundsOfTerms::kinds);
        sentence("A variable is BOUND by the innermost knot around it that has that variable.", BoundsOfTerms::bound);
        sentence("At most three knots lie in one another.", BoundsOfTerms::knots);
    }

    private static void letters() {
        Counted x = new Counted();
        for (int letter = 0; letter < 8; letter++) {
            int which = letter;
            int term = x.leaf(letter);
            Check.holds("put " + letter, x.put(letter));
            Check.answers("letter " + letter, letter, () -> x.letter(which));
            Ask.finds("a letter", "" + letter, 1, "" + letter);
            Check.answers("a set of one letter", 1 << letter, () -> x.type(term, 1));
        }
        for (int letter : new int[] {8, -1}) {
            Check.holds("put of none: " + letter, !x.put(letter));
        }
        Check.fails("leaf of none", ARGUMENT, () -> x.leaf(8));
        Check.answers("all letters", 8, x::length);
        x.cut(0);
        Check.answers("a row of none", 0, x::length);
        Check.holds("a letter twice", x.put(3) && x.put(3));
        Check.same("a row of two", "33", Check.word(x));
    }

    private static void numbers() {
        Counted x = new Counted();
        Check.answers("the first one", 0, () -> x.leaf(0));
        Check.answers("the next one", 1, () -> x.variable(0));
        Check.fails("one that is not made", ARGUMENT, () -> x.leaf(8));
        Check.answers("the next one made", 2, () -> x.join(1, 0, true));
        Check.answers("and the next", 3, () -> x.knot(0, 2));
        fortyEighth("leaf", y -> y.leaf(7));
        fortyEighth("variable", y -> y.variable(3));
        fortyEighth("pair", y -> y.join(0, 1, false));
        fortyEighth("either", y -> y.join(1, 0, true));
        fortyEighth("knot", y -> y.knot(0, 0));
        allInOne();
    }

    /** A term that has all the others in it, 48 with itself. */
    private static void allInOne() {
        Ask.hasFault("the first of 48, unbound", UNBOUND, 0, "X" + ".".repeat(23) + "w" + "0".repeat(23));
        Ask.hasFault("the last leaf of 48, unbound", UNBOUND, 23, "X" + ".0".repeat(23) + "w");
        Ask.reads("48 terms, to the left", "X" + ".".repeat(23) + "0".repeat(24), "0".repeat(24), 48, "");
        Ask.reads("48 terms, to the right", "X" + ".0".repeat(23) + "0", "0".repeat(24), 48, "");
        Ask.finds("16 letters by 48 terms", "W" + "|n".repeat(8) + ".1".repeat(15) + "2", 16, "1".repeat(15) + "2");
        Ask.finds("48 terms", "X" + "|n".repeat(23) + "7", 1, "7");
    }

    /** A term that is made when there are 46, 47 and 48. */
    private static void fortyEighth(String what, java.util.function.ToIntFunction<Counted> make) {
        for (int terms = 46; terms < 48; terms++) {
            Counted x = new Counted();
            Ask.fillTo(x, terms);
            Check.answers(what + " when there are " + terms, terms, () -> make.applyAsInt(x));
            Check.answers("terms then", terms + 1, x::terms);
        }
        Twins.refuses(what + " when there are 48", ROOM, Ask::fill, make::applyAsInt);
    }

    private static void parts() {
        Twins.Deed one = x -> x.leaf(0);
        Twins.refuses("a pair with what is made next", INDEX, one, x -> x.join(0, 1, false));
        Twins.refuses("an either of what is made next", INDEX, one, x -> x.join(1, 0, true));
        Twins.refuses("a knot of what is made next", INDEX, one, x -> x.knot(0, 1));
        // Terms 0 to 5: a pair of 0 and 1, a knot of 3, 5 is free.
        Twins.Deed some = x -> {
            Check.build(x, ".01");
            Check.build(x, "W2");
            x.leaf(3);
        };
        for (int part : new int[] {0, 1, 3}) {
            Twins.refuses("a pair of the part " + part, STATE, some, x -> x.join(part, 5, false));
            Twins.refuses("a pair with the part " + part, STATE, some, x -> x.join(5, part, false));
            Twins.refuses("an either of the part " + part, STATE, some, x -> x.join(part, 5, true));
            Twins.refuses("an either with the part " + part, STATE, some, x -> x.join(5, part, true));
            Twins.refuses("a knot of the part " + part, STATE, some, x -> x.knot(0, part));
        }
        Counted x = new Counted();
        some.go(x);
        Check.answers("wholes are no parts yet", 6, () -> x.join(4, 2, true));
        Check.answers("made before, and no part", 7, () -> x.join(6, 5, false));
        Check.fails("a part of a part's whole", STATE, () -> x.knot(0, 0));
        Check.fails("a whole that became a part", STATE, () -> x.knot(0, 6));
    }

    private static void kinds() {
        Ask.counts("EMPTY", "e", 1, 0, 0);
        Ask.counts("NONE", "n", 0, 0, 0);
        Ask.counts("a LETTER", "0", 0, 1, 0);
        Ask.finds("a PAIR: first and second", ".10", 2, "10");
        Ask.finds("an EITHER", "|10", 1, "0", "1");
        for (int v = 0; v < 4; v++) {
            Ask.hasFault("VARIABLE", UNBOUND, 0, "" + "wxyz".charAt(v));
            Ask.finds("a KNOT", "WXYZ".charAt(v) + "|1.0" + "wxyz".charAt(v), 3, "001");
        }
        Twins.Deed one = x -> x.leaf(0);
        for (int v : new int[] {-1, 4}) {
            Twins.refuses("VARIABLE " + v, ARGUMENT, one, x -> x.variable(v));
            Twins.refuses("KNOT " + v, ARGUMENT, one, x -> x.knot(v, 0));
        }
    }

    private static void bound() {
        Ask.finds("by the innermost one", "W|2.0W|3.1w", 3, "013");
        Ask.finds("by the only one that has it", "W|2.0X|3.1w", 3, "012");
        Ask.finds("by the innermost one of three", "W|5.0W|4.1W|3.2w", 4, "0123");
        Ask.finds("the middle one of three", "W|5.0X|4.1W|3.2x", 4, "0124");
        Ask.finds("the outermost one of three", "X|5.0W|4.1W|3.2x", 4, "0125");
        Ask.finds("the same one twice", "W|3.0.ww", 3, "033");
        Ask.hasFault("the innermost one counts, though there are others", UNGUARDED, 1, "W.0Ww");
        Ask.hasFault("a knot beside it on the left", UNBOUND, 3, ".0.W1w");
        Ask.hasFault("a knot beside it on the right", UNBOUND, 1, ".0.wW1");
        Ask.hasFault("a knot inside is not around", UNBOUND, 1, ".0|wX.1x");
        Ask.hasFault("a knot that has another one", UNBOUND, 1, "X.0w");
        Ask.hasFault("knots that have others", UNBOUND, 1, "XYZ.0w");
        Ask.hasFault("no knot", UNBOUND, 1, ".0w");
        Counted x = new Counted();
        int knot = Check.build(x, "W|1.0w");
        Check.answers("with its knot", 0, () -> x.fault(knot));
        Check.answers("without its knot", 8 * 2 + UNBOUND, () -> x.fault(knot - 1));
        Check.answers("by itself", 8 * 2 + UNBOUND, () -> x.fault(2));
    }

    private static void knots() {
        String[] three = {"WXY0", "WWW0", ".1WXY0", ".WXY01", "|1WXY0", "|WXY01", "W|1X|2Y3", ".W0|WXY1Z2",
            "..WX0X1WXY2"};
        for (String text : three) {
            Twins.refuses("a fourth knot " + text, ROOM, x -> Check.build(x, text), x -> x.knot(0, x.terms() - 1));
        }
        String[] two = {"WX0", ".1WX0", ".WX01", "W|1X2", ".WX0YZ1", "|.WX0YZ1WZ2"};
        for (String text : two) {
            Counted x = new Counted();
            int root = Check.build(x, text);
            Check.answers("a third knot " + text, root + 1, () -> x.knot(0, root));
            Check.fails("a fourth one then " + text, ROOM, () -> x.knot(0, root + 1));
            Check.answers("still as many terms", root + 2, x::terms);
        }
        Counted x = new Counted();
        Check.build(x, "WXY0");
        Check.answers("joined, not knotted", 5, () -> x.join(3, x.leaf(1), true));
        Check.fails("a knot around that", ROOM, () -> x.knot(0, 5));
        Check.answers("a knot of another term", 7, () -> x.knot(0, x.leaf(2)));
    }

    private static void words() {
        sentence("THE WORDS of a term without unbound variables are the least sets such that:",
                BoundsOfTerms::leastWords);
        sentence("EMPTY has the word without letters,", () -> Ask.finds("EMPTY", "e", 0, ""));
        sentence("NONE has none,", () -> {
            Ask.counts("NONE", "n", new long[17]);
            Ask.finds("NONE", "n", 0);
        });
        sentence("a letter that letter alone,", () -> {
            Ask.counts("a letter", "7", 0, 1, 0, 0);
            Ask.finds("a letter", "7", 1, "7");
        });
        sentence("a pair the words of its first part with a word of the second one behind,", () -> {
            Ask.finds("a word and a word", ".01", 2, "01");
            Ask.finds("each with each", ".|01|23", 2, "02", "03", "12", "13");
            Ask.finds("behind", ".1|e0", 2, "10");
            Ask.finds("with the word without letters behind", ".1|e0", 1, "1");
            Ask.counts("a first part without words", ".n0", 0, 0, 0);
            Ask.counts("a second part without words", ".0n", 0, 0, 0);
        });
        sentence("an either those of both parts,", () -> {
            Ask.finds("both parts", "|70", 1, "0", "7");
            Ask.finds("the one that has words", "|n4", 1, "4");
            Ask.counts("none", "|nn", 0, 0, 0);
            Ask.counts("two lengths", "|e5", 1, 1, 0);
        });
        sentence("a knot those of its part,", () -> {
            Ask.finds("a letter", "W2", 1, "2");
            Ask.counts("EMPTY", "WXYe", 1, 0, 0);
            Ask.counts("NONE", "Wn", 0, 0, 0);
        });
        sentence("and a variable those of the knot that binds it.", () -> {
            Ask.counts("a row", "W|2.0w", 0, 1, 1, 1, 1);
            Ask.finds("nested", NESTED, 6, "000111");
            Ask.finds("of the innermost knot", "W|2.0W|3.1w", 2, "03");
        });
    }

    private static void leastWords() {
        Ask.counts("no word demands another", "W.0w", new long[17]);
        Ask.counts("one in another", "W.0X.1|.2w.3x", new long[17]);
        Ask.finds("none to find", "W.0w", 16);
        Ask.counts("with an end", "W|1.0w", 0, 1, 1, 1, 1, 1);
        Counted x = new Counted();
        int open = Check.build(x, ".0w");
        Check.fails("words of a term with an unbound variable", STATE, () -> x.count(open, 0));
    }

    private static void types() {
        sentence("A TYPE is: whether it is NULLABLE, FIRST and AFTER, two sets of letters (told as the sum of"
                + " 1 << letter).", () -> {
            for (int letter = 0; letter < 8; letter++) {
                Ask.hasType("FIRST", "" + letter, 0, 1 << letter, 0);
                Ask.hasType("AFTER", "." + (letter + 1) % 8 + "|e" + letter, 0, 1 << (letter + 1) % 8, 1 << letter);
            }
            Ask.hasType("all letters", ALL, 1, 255, 255);
            Ask.hasType("some letters", ".|06||e1|35", 0, 65, 42);
        });
        sentence("THE TYPES of a term and all in it are the least ones (not nullable, no letters, if nothing demands"
                + " it) such that:", BoundsOfTerms::leastTypes);
        sentence("EMPTY is nullable.", () -> Ask.hasType("EMPTY", "e", 1, 0, 0));
        sentence("A letter's FIRST has that letter.", () -> {
            Ask.hasType("the first letter", "0", 0, 1, 0);
            Ask.hasType("the last letter", "7", 0, 128, 0);
        });
        sentence("An either is nullable, if one part is;", () -> {
            Ask.hasType("the first part", "|e0", 1, 1, 0);
            Ask.hasType("the second part", "|0e", 1, 1, 0);
            Ask.hasType("none", "|01", 0, 3, 0);
            Ask.hasType("EMPTY or NONE", "|en", 1, 0, 0);
            Ask.hasType("NONE or EMPTY", "|ne", 1, 0, 0);
            Ask.hasType("NONE or NONE", "|nn", 0, 0, 0);
            // Both are: told by the fault of an earlier either, EMPTY or what the knot has.
            Ask.hasFault("both parts", DOUBLE, 3, "W|.0|ew|ee");
            Ask.hasFault("one part", DOUBLE, 3, "W|.0|ew|en");
            Ask.isTyped("none", "W|.0|ew|nn");
        });
        sentence("its FIRST and AFTER have what those of both parts have.", () -> {
            Ask.hasType("FIRST", "|37", 0, 136, 0);
            Ask.hasType("FIRST of the first part", "|6n", 0, 64, 0);
            Ask.hasType("FIRST of the second part", "|n6", 0, 64, 0);
            Ask.hasType("AFTER", "|.0|1e.2|3e", 0, 5, 10);
            Ask.hasType("AFTER of the first part", "|.0|1e2", 0, 5, 2);
            Ask.hasType("AFTER of the second part", "|2.0|1e", 0, 5, 2);
            Ask.hasType("AFTER of both, the same letter", "|.0|1e.2|1e", 0, 5, 2);
        });
        sentence("A knot has the type of its part, a variable that of the knot that binds it.",
                BoundsOfTerms::knotTypes);
    }

    private static void leastTypes() {
        Ask.hasType("NONE", "n", 0, 0, 0);
        Ask.hasType("a knot around nothing", "W.0w", 0, 1, 0);
        Ask.hasType("two ways on, no end", "W|.0w.1w", 0, 3, 0);
        Ask.hasType("knots in one another", "W.0X.1|.2w.3x", 0, 1, 0);
        // Told by the fault of an earlier term: what is not guarded or not bound demands nothing.
        Ask.hasFault("no letter by an unguarded variable", UNGUARDED, 5, "W|.0|1ww");
        Ask.hasFault("no letter by an unbound variable", UNBOUND, 5, "W|.0|1wx");
        Ask.hasFault("a letter by a letter", DOUBLE, 3, "W|.0|1w1");
        Ask.hasFault("not nullable by an unguarded variable", UNGUARDED, 5, "W|.0|eww");
        Ask.hasFault("not nullable by an unbound variable", UNBOUND, 5, "W|.0|ewx");
        Ask.hasFault("nullable by EMPTY", DOUBLE, 3, "W|.0|ewe");
        Ask.hasFault("a letter of its knot by an unguarded variable, of another knot", DOUBLE, 4, "W|0X|.2|0xw");
        Ask.hasFault("nothing behind an unguarded variable", UNGUARDED, 5, "W|.0.w2w");
        Ask.hasFault("something behind a letter", LOOSE, 3, "W|.0.w2.1|2e");
        // What a knot's type has is demanded of its variables once more, as often as it is new.
        Ask.hasFault("nullable, by nothing but that", DOUBLE, 3, "W|.n|ewe");
        Ask.hasFault("nullable, by a first part", DOUBLE, 3, "X.e|ex");
        Ask.hasFault("FIRST, by nothing but that", DOUBLE, 3, "X.0|0x");
        Ask.hasFault("AFTER, by nothing but that", LOOSE, 4, "X.W..1wx|eWx");
        Ask.hasFault("AFTER, by two knots", LOOSE, 7, "X..W0|W3W.0.wx.2|ex");
    }

    private static void knotTypes() {
        Ask.hasType("a knot: nullable", "W|0e", 1, 1, 0);
        Ask.hasType("a knot: FIRST", "X|70", 0, 129, 0);
        Ask.hasType("a knot: AFTER", "Y.0|5e", 0, 1, 32);
        Ask.hasType("three knots", "WXY.0|5e", 0, 1, 32);
        Ask.hasType("AFTER by a variable", "W|e.0w", 1, 1, 1);
        Ask.hasType("not nullable by a variable", "W|7.0w", 0, 129, 0);
        Ask.hasType("AFTER by the innermost knot", ".0W|1.2W|e.3w", 0, 1, 8);
        Ask.hasType("AFTER by the outer knot", ".0W|e.2X|3.4w", 0, 1, 4);
        Ask.hasFault("a variable's FIRST: its own pair's letter", DOUBLE, 3, "W|.0|0w1");
        Ask.hasFault("a variable's FIRST: another letter", DOUBLE, 3, "W|.0|1w1");
        Ask.isTyped("a variable's FIRST: neither", "W|.0|2w1");
        Ask.hasFault("a variable's AFTER", LOOSE, 3, "W|.0.w2.1|2e");
        Ask.isTyped("a variable's AFTER: another letter", "W|.0.w3.1|2e");
        Ask.isTyped("a variable's FIRST is not its AFTER", "W|.0.w1.1|2e");
        Ask.hasFault("a variable that is nullable", LOOSE, 4, "W|e.0.w1");
    }

    // A pair whose first part is nullable is LOOSE: its type is told by the fault of an earlier
    // term, which has the type of the knot around both.
    private static void pairTypes() {
        sentence("A pair is nullable, if both parts are;", () -> {
            Ask.hasFault("both parts", DOUBLE, 3, "W|.0|ew.ee");
            Ask.isTyped("the second part", "W|.0|ew.ne");
            Ask.hasFault("the first part", LOOSE, 7, "W|.0|ew.en");
            Ask.isTyped("none", "W|.0|ew.nn");
            Ask.hasType("the second part", ".0e", 0, 1, 0);
            Ask.hasType("none", ".00", 0, 1, 0);
        });
        sentence("its FIRST is that of the first part, and, if this is nullable, that of the second one, too;", () -> {
            Ask.hasType("the first part", ".12", 0, 2, 0);
            Ask.hasType("a first part without words", ".n2", 0, 0, 0);
            Ask.hasType("a second part that is nullable", ".1|2e", 0, 2, 4);
            Ask.hasFault("the first part is nullable: FIRST of the second one", DOUBLE, 3, "W|.0|1w.e1");
            Ask.hasFault("the first part is nullable: FIRST of both", DOUBLE, 3, "W|.0|1w.|e21");
            Ask.hasFault("the first part is nullable: its own FIRST, too", DOUBLE, 3, "W|.0|2w.|e21");
            Ask.hasFault("the first part is nullable: no other letter", LOOSE, 9, "W|.0|3w.|e21");
            Ask.isTyped("the first part is not nullable", "W|.0|1w.n1");
        });
        sentence("its AFTER is that of the second part, and, if this is nullable, the FIRST of the second part and the"
                + " AFTER of the first one, too.", () -> {
            Ask.hasType("AFTER of the second part", ".0.1|2e", 0, 1, 4);
            Ask.hasType("not nullable: no AFTER of the first part", "..0|1e2", 0, 1, 0);
            Ask.hasType("not nullable: no FIRST of the second part", ".0|1.2|3e", 0, 1, 8);
            Ask.hasType("nullable: FIRST of the second part", ".0|1e", 0, 1, 2);
            Ask.hasType("nullable: AFTER of the first part", "..0|1ee", 0, 1, 2);
            Ask.hasType("nullable: both", "..0|1e|2e", 0, 1, 6);
            Ask.hasType("nullable: all three", "..0|1e|e.2|3e", 0, 1, 14);
            Ask.hasType("nullable: no FIRST of the first part", ".0e", 0, 1, 0);
            Ask.hasType("a first part without words", ".n|1e", 0, 0, 2);
        });
    }

    private static void typed() {
        sentence("A term is TYPED, if all of these hold for all in it, and the term itself;", () -> {
            Ask.hasFault("the term itself", DOUBLE, 2, "|00");
            Ask.hasFault("its part", DOUBLE, 3, ".1|00");
            Ask.hasFault("deep in it", DOUBLE, 5, "W.1X.2.3|00");
            Ask.hasFault("a leaf of it", UNBOUND, 3, ".0.1.2w");
            Ask.isTyped("all hold", "W.1X.2.3|01");
            Counted x = new Counted();
            int whole = Check.build(x, ".1|.00.00");
            Check.answers("what is around it does not count", 0, () -> x.fault(3));
            Check.answers("nor what is beside it", 0, () -> x.fault(6));
            Check.answers("all in it", 8 * 7 + DOUBLE, () -> x.fault(whole));
        });
        sentence("if not, the first one counts that is met, going through the term from the left to the right,"
                + " parts before what they are parts of:", BoundsOfTerms::firstMet);
        sentence("UNBOUND: a variable must be bound.", () -> {
            Ask.hasFault("no knot", UNBOUND, 0, "w");
            Ask.hasFault("neither bound nor guarded", UNBOUND, 0, "Xw");
            Ask.hasFault("guarded, not bound", UNBOUND, 1, ".0w");
            Ask.isTyped("bound", "W.0w");
            Ask.isTyped("a knot without its variable", "W0");
        });
        sentence("UNGUARDED: a variable must be guarded: somewhere between it and the knot that binds it, there is a"
                + " pair in whose second part it is.", BoundsOfTerms::guarded);
        sentence("LOOSE: of a pair, the first part is not nullable, and no letter of its AFTER is in the FIRST of the"
                + " second one.", BoundsOfTerms::loose);
        sentence("DOUBLE: of an either, the parts are not both nullable, and have no letter in FIRST together.",
                BoundsOfTerms::doubled);
    }

    private static void firstMet() {
        Ask.hasFault("left, then right", DOUBLE, 2, "||22|33");
        Ask.hasFault("LOOSE on the left, DOUBLE on the right", LOOSE, 2, "|.e0|11");
        Ask.hasFault("DOUBLE on the left, LOOSE on the right", DOUBLE, 2, "||11.e0");
        Ask.hasFault("UNGUARDED on the left, UNBOUND on the right", UNGUARDED, 0, "W|wx");
        Ask.hasFault("UNBOUND on the left, UNGUARDED on the right", UNBOUND, 0, "W|xw");
        Ask.hasFault("deep on the left, high on the right", DOUBLE, 4, "|.1.2|33.e4");
        Ask.hasFault("a part, then the pair", DOUBLE, 3, ".e|00");
        Ask.hasFault("a first part, then the pair", LOOSE, 2, "..e10");
        Ask.hasFault("a part, then the either", LOOSE, 3, "|1.e1");
        Ask.hasFault("a variable, then all around it", UNBOUND, 1, ".ew");
        Ask.hasFault("the second part, then the pair", UNGUARDED, 1, ".eWw");
        Ask.hasFault("the pair, when its parts are typed", LOOSE, 6, "..0|1e1");
        // Numbers do not tell the order: here the right part was made first.
        Counted x = new Counted();
        int right = Check.build(x, "|00");
        int left = Check.build(x, ".e1");
        int root = x.join(left, right, true);
        Check.answers("the left part, made last", 8 * left + LOOSE, () -> x.fault(root));
        Counted y = new Counted();
        int second = y.variable(3);
        int first = y.variable(2);
        int pair = y.join(first, second, false);
        Check.answers("the left variable, made last", 8 * first + UNBOUND, () -> y.fault(pair));
        Check.answers("the right one by itself", 8 * second + UNBOUND, () -> y.fault(second));
    }

    private static void guarded() {
        Ask.isTyped("in the second part", "W.0w");
        Ask.hasFault("in the first part", UNGUARDED, 0, "W.w0");
        Ask.hasFault("in no pair", UNGUARDED, 0, "Ww");
        Ask.hasFault("in an either, second part", UNGUARDED, 1, "W|0w");
        Ask.hasFault("in an either, first part", UNGUARDED, 0, "W|w0");
        Ask.isTyped("deep in the second part", "W.0|1|2.3.w4");
        Ask.isTyped("in a first part in a second one", "W.0.w1");
        Ask.isTyped("in a second part in a first one", "W..0w1");
        Ask.hasFault("in first parts only", UNGUARDED, 0, "W..w01");
        Ask.hasFault("the pair is around the knot", UNGUARDED, 1, ".0Ww");
        Ask.hasFault("the pair is around the knot that binds it, in another knot", UNGUARDED, 1, "W.0Xx");
        Ask.hasFault("the pair is between two knots that have it", UNGUARDED, 1, "W.0Ww");
        Ask.isTyped("another knot between the pair and it", "W.0Xw");
        Ask.isTyped("another knot between the pair and its knot", "WX.0w");
        Ask.isTyped("the pair in the inner knot", "WX.0x");
        Ask.hasFault("one of two variables", UNGUARDED, 3, "W|.0ww");
        Ask.hasFault("the other one of two variables", UNGUARDED, 0, "W.w.0w");
    }

    private static void loose() {
        Ask.hasFault("EMPTY first", LOOSE, 2, ".e0");
        Ask.hasFault("EMPTY twice", LOOSE, 2, ".ee");
        Ask.hasFault("a nullable either first", LOOSE, 4, ".|0e1");
        Ask.isTyped("EMPTY second", ".0e");
        Ask.isTyped("NONE first", ".ne");
        Ask.isTyped("NONE second", ".0n");
        Ask.hasFault("nullable, before NONE", LOOSE, 2, ".en");
        for (int letter = 0; letter < 8; letter++) {
            int other = (letter + 1) % 8;
            Ask.hasFault("the letter behind it", LOOSE, 6, "..0|" + letter + "e" + letter);
            Ask.isTyped("another letter behind it", "..0|" + letter + "e" + other);
        }
        Ask.hasFault("one letter of more", LOOSE, 12, "..0||12e||342");
        Ask.isTyped("no letter of more", "..0||12e||345");
        Ask.hasFault("a letter of a nullable second part", LOOSE, 8, "..0|1e|1e");
        Ask.isTyped("EMPTY behind AFTER", "..0|1ee");
        Ask.isTyped("FIRST of both", ".00");
        Ask.isTyped("AFTER of both", "..0|1e.2|1e");
        Ask.isTyped("the second one's AFTER, the first one's FIRST", ".0.1|0e");
    }

    private static void doubled() {
        Ask.hasFault("both nullable", DOUBLE, 2, "|ee");
        Ask.hasFault("both nullable, with letters", DOUBLE, 6, "||0e|1e");
        Ask.isTyped("the first one nullable", "|e0");
        Ask.isTyped("the second one nullable", "|0e");
        Ask.isTyped("none nullable", "|nn");
        for (int letter = 0; letter < 8; letter++) {
            Ask.hasFault("a letter together", DOUBLE, 2, "|" + letter + letter);
            Ask.isTyped("no letter together", "|" + letter + (letter + 1) % 8);
        }
        Ask.hasFault("one letter of more", DOUBLE, 10, "||0|12||342");
        Ask.isTyped("none of more", "||0|12||345");
        Ask.hasFault("a letter, and one is nullable", DOUBLE, 4, "||0e0");
        Ask.hasFault("words that go on otherwise", DOUBLE, 6, "|.01.02");
        Ask.hasFault("parts without words", DOUBLE, 6, "|.0n.0n");
        Ask.isTyped("a letter of AFTER together", "|.0|1e.2|1e");
        Ask.isTyped("FIRST of one, AFTER of the other", "|.0|1e1");
        Ask.isTyped("last letters together", "|.01.21");
    }

    private static void reading() {
        sentence("TO READ a word by a typed term, from a place in it:", () -> {
            Ask.reads("from the first place", ".01", "01", 3, "");
            Counted x = new Counted();
            x.put(0);
            int bad = Check.build(x, "|00");
            Check.fails("by a term that is not typed", STATE, () -> x.read(bad));
            Check.answers("by its part, which is", 1, () -> x.read(0));
        });
        sentence("EMPTY reads nothing;", () -> {
            Ask.reads("no letters", "e", "", 1, "");
            Ask.stops("a letter", "e", "0", 0);
            Ask.reads("behind a letter", ".0e", "0", 3, "");
            Ask.reads("between letters", "..0e1", "01", 5, "");
        });
        sentence("a letter reads that letter;", () -> {
            for (int letter = 0; letter < 8; letter++) {
                Ask.reads("it", "" + letter, "" + letter, 1, "");
                Ask.stops("another one", "" + letter, "" + (letter + 1) % 8, 0);
                Ask.stops("no letter", "" + letter, "", 0);
                Ask.stops("it, and once more", "" + letter, "" + letter + letter, 1);
            }
        });
        sentence("a pair reads by its first part, and then by the second one;", () -> {
            Ask.reads("first and second", ".01", "01", 3, "");
            Ask.stops("second and first", ".01", "10", 0);
            Ask.stops("the first part alone", ".01", "0", 1);
            Ask.stops("the second part alone", ".01", "1", 0);
            Ask.stops("one more", ".01", "010", 2);
            Ask.reads("pairs in first parts", "...0123", "0123", 7, "");
            Ask.reads("pairs in second parts", ".0.1.23", "0123", 7, "");
        });
        sentence("a knot by its part, a variable by the knot that binds it;", () -> {
            Ask.reads("a knot", "W5", "5", 2, "");
            Ask.reads("three knots", "WXY5", "5", 4, "");
            Ask.reads("a variable", "W|.0w1", "01", 8, "01");
            Ask.reads("a variable of the innermost knot", "W|2.0W|3.1w", "0113", 17, "1110");
            Ask.reads("a variable of the outer knot", "W|2.0X|3.1w", "012", 12, "110");
        });
        sentence("an either by the part in whose FIRST the next letter is;", BoundsOfTerms::eithers);
        sentence("if there is none such, or no letter any more, by the part that is nullable.", () -> {
            Ask.reads("none such, the second part", "..0|1e2", "02", 6, "1");
            Ask.reads("none such, the first part", "..0|e12", "02", 6, "0");
            Ask.reads("no letter any more, the second part", ".0|1e", "0", 4, "1");
            Ask.reads("no letter any more, the first part", ".0|e1", "0", 4, "0");
            Ask.reads("no letter at all", "||12|3e", "", 3, "11");
            Ask.reads("no letter at all, the first part", "||e12", "", 3, "00");
            Ask.reads("no letter behind 40", "W|e.0w", "0".repeat(40), 203, "1".repeat(40) + "0");
            Ask.stops("none such, and letters left", "|1e", "2", 0);
        });
    }

    private static void eithers() {
        Ask.reads("the first part", "|01", "0", 2, "0");
        Ask.reads("the second part", "|01", "1", 2, "1");
        Ask.reads("not the nullable one", "|e1", "1", 2, "1");
        Ask.reads("not the nullable one, otherwise", "|1e", "1", 2, "0");
        Ask.reads("the one that is nullable, and has it", "||1e2", "1", 3, "00");
        Ask.reads("the one that is not nullable, and has it", "||1e2", "2", 2, "1");
        Ask.reads("the last letter of eight", "|||01|23||45|67", "7", 4, "111");
        Ask.reads("the first letter of eight", "|||01|23||45|67", "0", 4, "000");
        Ask.stops("its FIRST counts, not how it goes on", "||.01e2", "02", 1);
        Ask.stops("never going back to the nullable part", ".0|.12e", "013", 2);
        Ask.reads("the next letter, not the one before", ".0|01", "01", 4, "1");
    }

    private static void told() {
        sentence("Where that can't be done, the word is not read, and the place where it could not is told.", () -> {
            Ask.stops("no part has the letter", "|01", "2", 0);
            Ask.stops("no part is nullable", "|01", "", 0);
            Ask.stops("no part has the next letter", ".0|12", "00", 1);
            Ask.stops("no letter any more", ".0|12", "0", 1);
            Ask.stops("at the last place", "W|1.0w", "0".repeat(39) + "2", 39);
            Ask.stops("behind the last place", "W|1.0w", "0".repeat(40), 40);
            Ask.reads("a letter less, and the end", "W|1.0w", "0".repeat(39) + "1", 39 * 5 + 3, "1".repeat(39) + "0");
            Ask.stops("in the middle", NESTED, "0010", 3);
        });
        sentence("NONE can't be done.", () -> {
            Ask.stops("without letters", "n", "", 0);
            Ask.stops("with a letter", "n", "0", 0);
            Ask.stops("behind a letter", ".0n", "0", 1);
            Ask.stops("behind a letter, before another", ".0n", "00", 1);
            Ask.stops("before a letter", ".n0", "0", 0);
            Ask.stops("in an either", "|n0", "1", 0);
            Ask.reads("by the other part of an either", "|n0", "0", 2, "1");
            Ask.reads("by the nullable part of an either", "|ne", "", 2, "1");
        });
        sentence("The word is READ, if it is read to its end;", () -> {
            Ask.reads("no letters", "e", "", 1, "");
            Ask.reads("one letter", "0", "0", 1, "");
            Ask.reads("40 letters", "W|e.0w", "0".repeat(40), 203, "1".repeat(40) + "0");
        });
        sentence("if letters are left, the place behind what was read is told.", () -> {
            Ask.stops("all left", "e", "0123", 0);
            Ask.stops("one left", "0", "00", 1);
            Ask.stops("the last one of 40 left", "W|e.0w", "0".repeat(39) + "1", 39);
            Ask.stops("behind a nullable part", ".0|1e", "02", 1);
            Ask.stops("behind what it read", ".0|1e", "011", 2);
            Ask.stops("39 left", "W|1.0w", "1" + "0".repeat(39), 1);
        });
        sentence("THE TRACE of a word that is read are the eithers that were met, in order, each 0 (by the first part)"
                + " or 1.", () -> {
            Ask.reads("none", ".01", "01", 3, "");
            Ask.reads("one after another", "..|01|23|45", "035", 8, "011");
            Ask.reads("one after another, otherwise", "..|01|23|45", "124", 8, "100");
            Ask.reads("one in another", "||01|23", "1", 3, "01");
            Ask.reads("one in another, otherwise", "||01|23", "2", 3, "10");
            Ask.reads("one by which nothing is read", "..0|e12", "02", 6, "0");
            Ask.reads("the same one more than once", NESTED, "0011", 17, "001");
            longTrace("0".repeat(40));
            longTrace("7".repeat(40));
            longTrace("7031265407362514013627450716235412345670");
            unevenTrace("7".repeat(40));
            unevenTrace("7031265407362514013627450716235412345670");
            unevenTrace("0123456776543210246013577531642002461357");
        });
        sentence("What is VISITED are the terms by which it is read, one more for each time.", () -> {
            Ask.reads("one", "0", "0", 1, "");
            Ask.reads("only the part of an either by which it is read", "|0.12", "0", 2, "0");
            Ask.reads("both parts of a pair", "|0.12", "12", 4, "1");
            Ask.reads("knots and variables, each time", "W|1.0w", "001", 2 * 5 + 3, "110");
            Ask.reads("what reads nothing", "..0e|en", "0", 6, "0");
        });
        sentence("THE NUMBER of a word of n letters among those of its length that a typed term has: 0 for the first"
                + " one, if they are put in order by their first letter that differs.", BoundsOfTerms::order);
    }

    /** Four steps a letter: that there is one more, and which one of eight; then that there is none. */
    private static void longTrace(String word) {
        StringBuilder due = new StringBuilder();
        for (char letter : word.toCharArray()) {
            due.append(1);
            for (int bit = 4; bit > 0; bit /= 2) {
                due.append((letter - '0') / bit % 2);
            }
        }
        Ask.reads("161 steps", ALL, word, 40 * 8 + 3, due + "0");
    }

    /** As many steps by a second part as a letter's number, then one by a first part. */
    private static void unevenTrace(String word) {
        StringBuilder due = new StringBuilder();
        int visits = 0;
        for (char letter : word.toCharArray()) {
            due.append("1".repeat(letter - '0')).append(0);
            visits += letter - '0' + 5;
        }
        Ask.reads("uneven steps", "W|.0w|.1w|.2w|.3w|.4w|.5w|.6w|.7we", word, visits + 10, due + "1".repeat(8));
    }

    private static void order() {
        Ask.finds("by the letter, not by the part", "||20|31", 1, "0", "1", "2", "3");
        Ask.finds("by the first letter", "|.20.13", 2, "13", "20");
        Ask.finds("by the second letter", ".5||40|73", 2, "50", "53", "54", "57");
        Ask.finds("by the last letter, too", "..|10|32|54", 3,
                "024", "025", "034", "035", "124", "125", "134", "135");
        Ask.finds("by the first that differs, not by the last", "|.07.10", 2, "07", "10");
        Ask.finds("a letter, and none before it", "W|e.7w", 3, "777");
        Ask.finds("behind a nullable part, letters before it", "..7|6e5", 2, "75");
        Ask.finds("of its length", "W|e.|10w", 0, "");
        Ask.finds("of its length", "W|e.|10w", 2, "00", "01", "10", "11");
        Ask.finds("of the parts' lengths", "..0|1e|2.33", 3, "012", "033");
        Ask.finds("of more ways to the same length", ".|0.12|.453", 3, "045", "123");
        Counted x = new Counted();
        int all = Check.build(x, ALL);
        x.find(all, 16, 0);
        Check.same("the first one", "0".repeat(16), Check.word(x));
        x.find(all, 16, (1L << 48) - 1);
        Check.same("the last one", "7".repeat(16), Check.word(x));
        x.find(all, 16, (1L << 47) - 1);
        Check.same("the last one of the first half", "3" + "7".repeat(15), Check.word(x));
        x.find(all, 16, 1L << 47);
        Check.same("the first one of the second half", "4" + "0".repeat(15), Check.word(x));
        Check.refuses("one more", ELEMENT, () -> x.find(all, 16, 1L << 48));
    }

    private static void refusals() {
        sentence("A call that throws changes nothing (but stopped(), by read());", BoundsOfTerms::changesNothing);
        sentence("where several exceptions that a call names fit, it is the one that it names first.",
                BoundsOfTerms::namedFirst);
    }

    private static void changesNothing() {
        for (Twins.Deed made : new Twins.Deed[] {BoundsOfTerms::some, BoundsOfTerms::full}) {
            Twins.refuses("leaf", ARGUMENT, made, x -> x.leaf(8));
            Twins.refuses("variable", ARGUMENT, made, x -> x.variable(4));
            Twins.refuses("join", INDEX, made, x -> x.join(0, 48, true));
            Twins.refuses("join", STATE, made, x -> x.join(7, 0, false));
            Twins.refuses("knot", INDEX, made, x -> x.knot(0, -1));
            Twins.refuses("knot", STATE, made, x -> x.knot(0, 6));
            Twins.refuses("knot", ARGUMENT, made, x -> x.knot(-1, 7));
            Twins.refuses("knot", ROOM, made, x -> x.knot(0, 14));
            Twins.refuses("fault", INDEX, made, x -> x.fault(48));
            Twins.refuses("type", INDEX, made, x -> x.type(7, 3));
            Twins.refuses("type", STATE, made, x -> x.type(10, 0));
            Twins.refuses("letter", INDEX, made, x -> x.letter(3));
            Twins.refuses("step", INDEX, made, x -> x.step(2));
            Twins.refuses("read", INDEX, made, x -> x.read(48));
            Twins.refuses("read", STATE, made, x -> x.read(10));
            Twins.refusesWord("read, and where it stopped", 0, made, 14);
            Twins.refuses("count", INDEX, made, x -> x.count(-1, 2));
            Twins.refuses("count", STATE, made, x -> x.count(10, 1));
            Twins.refuses("count", ARGUMENT, made, x -> x.count(7, 17));
            Twins.refuses("find", INDEX, made, x -> x.find(48, 2, 0));
            Twins.refuses("find", STATE, made, x -> x.find(10, 1, 0));
            Twins.refuses("find", ARGUMENT, made, x -> x.find(7, -1, 0));
            Twins.refuses("find", ELEMENT, made, x -> x.find(7, 2, 1));
        }
        Twins.refuses("leaf", ROOM, BoundsOfTerms::full, x -> x.leaf(0));
        Twins.refuses("variable", ROOM, BoundsOfTerms::full, x -> x.variable(0));
        Twins.refuses("join", ROOM, BoundsOfTerms::full, x -> x.join(7, 15, true));
        Twins.refuses("knot", ROOM, BoundsOfTerms::full, x -> x.knot(0, 15));
    }

    private static void namedFirst() {
        Twins.Deed full = BoundsOfTerms::full;
        Twins.refuses("leaf: argument, room", ARGUMENT, full, x -> x.leaf(-3));
        Twins.refuses("variable: argument, room", ARGUMENT, full, x -> x.variable(-1));
        Twins.refuses("join: index, state, room", INDEX, full, x -> x.join(0, 48, false));
        Twins.refuses("join: index, state, room, the other way", INDEX, full, x -> x.join(48, 0, false));
        Twins.refuses("join: index, they are one, room", INDEX, full, x -> x.join(48, 48, false));
        Twins.refuses("join: state, room", STATE, full, x -> x.join(7, 0, false));
        Twins.refuses("join: they are one, room", STATE, full, x -> x.join(7, 7, false));
        Twins.refuses("knot: index, argument, room", INDEX, full, x -> x.knot(4, 48));
        Twins.refuses("knot: state, argument, room", STATE, full, x -> x.knot(4, 0));
        Twins.refuses("knot: state, four knots", STATE, BoundsOfTerms::inFour, x -> x.knot(0, 3));
        Twins.refuses("knot: argument, room", ARGUMENT, full, x -> x.knot(4, 7));
        Twins.refuses("knot: argument, four knots", ARGUMENT, BoundsOfTerms::some, x -> x.knot(-1, 14));
        Twins.refuses("type: no part, not typed", INDEX, full, x -> x.type(10, 3));
        Twins.refuses("type: no term, no part", INDEX, full, x -> x.type(-1, -1));
        Twins.refuses("read: not typed, not read", STATE, full, x -> x.read(17));
        Twins.refuses("count: index, argument", INDEX, full, x -> x.count(48, 17));
        Twins.refuses("count: state, argument", STATE, full, x -> x.count(10, 17));
        Twins.refuses("find: index, argument, element", INDEX, full, x -> x.find(-1, -1, -1));
        Twins.refuses("find: state, argument, element", STATE, full, x -> x.find(10, 17, -1));
        Twins.refuses("find: state, element", STATE, full, x -> x.find(10, 2, 1));
        Twins.refuses("find: argument, element", ARGUMENT, full, x -> x.find(7, 17, -1));
    }

    /**
     * Terms 0 to 7 are typed, 8 to 10 DOUBLE, 11 to 14 a letter in three knots, 15 and 16 free
     * letters, 17 UNBOUND; the word is 001, the trace 01, and the latest read() stopped at 3.
     */
    static void some(Counted x) {
        Check.build(x, NESTED);
        Check.build(x, "|00");
        Check.build(x, "WXY5");
        x.leaf(5);
        x.leaf(6);
        x.variable(3);
        Check.spell(x, "01");
        x.read(7);
        Check.spell(x, "001");
        try {
            x.read(7);
        } catch (IllegalArgumentException e) {
            return;
        }
        throw new IllegalStateException("001 was read");
    }

    /** The same, and 48 terms. */
    static void full(Counted x) {
        some(x);
        Ask.fill(x);
    }

    /** A letter in three knots, which are a part. */
    private static void inFour(Counted x) {
        Check.build(x, ".WXY01");
    }
}
