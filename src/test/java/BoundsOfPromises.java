import java.util.function.ToLongFunction;

/** The sentences of the promises: inside each bound, on it, and outside it; what is refused. */
final class BoundsOfPromises {
    private static final Class<IndexOutOfBoundsException> INDEX = Ask.INDEX;
    private static final Class<IllegalStateException> STATE = Ask.STATE;
    private static final Class<IllegalArgumentException> ARGUMENT = Ask.ARGUMENT;
    private static final Class<UnsupportedOperationException> ROOM = Ask.ROOM;
    private static final Class<java.util.NoSuchElementException> ELEMENT = Ask.ELEMENT;

    private static final int LEAST = Integer.MIN_VALUE;
    private static final int MOST = Integer.MAX_VALUE;

    // The terms of BoundsOfTerms.some.
    private static final int NESTED = 7;
    private static final int DOUBLE_ONE = 10;
    private static final int THREE_KNOTS = 14;
    private static final int FIVE = 15;
    private static final int SIX = 16;
    private static final int OPEN = 17;
    private static final int TERMS = 18;

    private static final String ROW = "W|e.0w";
    private static final String ALL = "W|e.|||01|23||45|67w";
    private static final int ALL_WORDS = 19;

    private static final Twins.Deed NEW = x -> { };
    private static final Twins.Deed SOME = BoundsOfTerms::some;
    private static final Twins.Deed FULL = BoundsOfTerms::full;

    private BoundsOfPromises() {
    }

    static void testAll() {
        newObject();
        leaf();
        variable();
        join();
        knot();
        knotRoom();
        clear();
        terms();
        fault();
        type();
        put();
        cut();
        length();
        letter();
        read();
        stopped();
        trace();
        step();
        count();
        find();
    }

    /** A call with each term that there is none of, in an object of so many terms. */
    private static void needsTerm(String what, Twins.Deed made, int terms, OfTerm call) {
        for (int term : new int[] {-1, terms, terms + 1, 47, 48, LEAST, MOST}) {
            if (term < 0 || term >= terms) {
                Twins.refuses(what + " of term " + term + " of " + terms, INDEX, made, x -> call.go(x, term));
            }
        }
    }

    /** A call that takes a term. */
    private interface OfTerm {
        void go(Counted x, int term);
    }

    private static Twins.Deed word(int letters) {
        return x -> Check.spell(x, "0123456701234567012345670123456701234567".substring(0, letters));
    }

    /** All after the first deed, the second one. */
    private static Twins.Deed both(Twins.Deed first, Twins.Deed second) {
        return x -> {
            first.go(x);
            second.go(x);
        };
    }

    private static void answersAfter(String what, long due, Twins.Deed made, ToLongFunction<Counted> call) {
        Counted x = new Counted();
        made.go(x);
        Check.answers(what, due, () -> call.applyAsLong(x));
    }

    private static void newObject() {
        Sentences.test("Promise 1: A new object", "No terms, an empty word.", () -> {
            Counted x = new Counted();
            Check.answers("NONE", -1, () -> GuardedGrammar.NONE);
            Check.answers("terms", 0, x::terms);
            Check.answers("length", 0, x::length);
            Check.answers("stopped", -1, x::stopped);
            Check.answers("trace", 0, x::trace);
            needsTerm("fault", NEW, 0, Counted::fault);
            Twins.refuses("type", INDEX, NEW, y -> y.type(0, 0));
            Twins.refuses("join", INDEX, NEW, y -> y.join(0, 0, true));
            Twins.refuses("knot", INDEX, NEW, y -> y.knot(0, 0));
            Twins.refuses("read", INDEX, NEW, y -> y.read(0));
            Twins.refuses("count", INDEX, NEW, y -> y.count(0, 0));
            Twins.refuses("find", INDEX, NEW, y -> y.find(0, 0, 0));
            Twins.refuses("letter", INDEX, NEW, y -> y.letter(0));
            Twins.refuses("step", INDEX, NEW, y -> y.step(0));
            BoundsOfTerms.full(new Counted());
            Check.answers("terms beside another object", 0, x::terms);
            Check.same("the word beside another object", "", Check.word(x));
            Check.answers("stopped beside another object", -1, x::stopped);
            Check.answers("trace beside another object", 0, x::trace);
            Check.answers("the first term", 0, () -> x.leaf(0));
            Check.answers("the empty word read by it", -1, () -> x.fault(0) + x.stopped());
        });
    }

    private static void leaf() {
        String where = "Promise 2: leaf";
        Sentences.test(where, "A new term without parts: what = -1 EMPTY, -2 NONE, 0 .. 7 that LETTER.", () -> {
            Twins.Deed leaves = x -> {
                for (int what = -2; what < 8; what++) {
                    x.leaf(what);
                }
            };
            for (int term = 0; term < 10; term++) {
                int which = term;
                answersAfter("whether nullable", term == 1 ? 1 : 0, leaves, x -> x.type(which, 0));
                answersAfter("first", term < 2 ? 0 : 1 << (term - 2), leaves, x -> x.type(which, 1));
                answersAfter("after", 0, leaves, x -> x.type(which, 2));
                answersAfter("words of none", term == 1 ? 1 : 0, leaves, x -> x.count(which, 0));
                answersAfter("words of one", term < 2 ? 0 : 1, leaves, x -> x.count(which, 1));
                answersAfter("words of two", 0, leaves, x -> x.count(which, 2));
                answersAfter("fault", 0, leaves, x -> x.fault(which));
                answersAfter("no part of another one", 10, leaves, x -> x.knot(0, which));
            }
        });
        Sentences.test(where, "Its number.", () -> {
            Counted x = new Counted();
            for (int term = 0; term < 48; term++) {
                Check.answers("leaf", term, () -> x.leaf(x.terms() % 10 - 2));
            }
        });
        Sentences.test(where, "IllegalArgumentException when it is another number;", () -> {
            for (int what : new int[] {-3, 8, -4, 9, LEAST, MOST}) {
                Twins.refuses("leaf(" + what + ")", ARGUMENT, NEW, x -> x.leaf(what));
                Twins.refuses("leaf(" + what + ") among terms", ARGUMENT, SOME, x -> x.leaf(what));
                Twins.refuses("leaf(" + what + ") when full", ARGUMENT, FULL, x -> x.leaf(what));
            }
            answersAfter("leaf(-2)", 0, NEW, x -> x.leaf(-2));
            answersAfter("leaf(7)", 0, NEW, x -> x.leaf(7));
        });
        Sentences.test(where, "UnsupportedOperationException when there are 48 terms.",
                () -> needsRoom(x -> x.leaf(-2), x -> x.leaf(7)));
    }

    /** Calls that make a term, and are refused when there are 48 terms. */
    @SafeVarargs
    private static void needsRoom(ToLongFunction<Counted>... calls) {
        for (ToLongFunction<Counted> call : calls) {
            answersAfter("when there are 46", 46, both(SOME, x -> Ask.fillTo(x, 46)), call);
            answersAfter("when there are 47", 47, both(SOME, x -> Ask.fillTo(x, 47)), call);
            Twins.refuses("when there are 48", ROOM, FULL, call::applyAsLong);
            answersAfter("when there were 48", TERMS, both(FULL, Counted::clear), x -> {
                SOME.go(x);
                return call.applyAsLong(x);
            });
        }
    }

    private static void variable() {
        String where = "Promise 3: variable";
        Sentences.test(where, "A new VARIABLE: its number.", () -> {
            for (int v = 0; v < 4; v++) {
                for (int knot = 0; knot < 4; knot++) {
                    Counted x = new Counted();
                    x.leaf(0);
                    int which = v;
                    Check.answers("variable " + v, 1, () -> x.variable(which));
                    x.knot(knot, x.join(0, 1, false));
                    Check.answers("bound by knot " + knot, v == knot ? 0 : 8 * 1 + 1, () -> x.fault(3));
                }
            }
            answersAfter("the next number", TERMS, SOME, x -> x.variable(0));
            answersAfter("no part of another one", TERMS + 1, SOME, x -> x.knot(0, x.variable(0)));
        });
        Sentences.test(where, "IllegalArgumentException when v is not 0 .. 3;", () -> {
            for (int v : new int[] {-1, 4, -2, 5, LEAST, MOST}) {
                Twins.refuses("variable(" + v + ")", ARGUMENT, NEW, x -> x.variable(v));
                Twins.refuses("variable(" + v + ") among terms", ARGUMENT, SOME, x -> x.variable(v));
                Twins.refuses("variable(" + v + ") when full", ARGUMENT, FULL, x -> x.variable(v));
            }
            answersAfter("variable(0)", 0, NEW, x -> x.variable(0));
            answersAfter("variable(3)", 0, NEW, x -> x.variable(3));
        });
        Sentences.test(where, "UnsupportedOperationException when there are 48 terms.",
                () -> needsRoom(x -> x.variable(0), x -> x.variable(3)));
    }

    private static void join() {
        String where = "Promise 4: join";
        Sentences.test(where, "A new PAIR, or an EITHER (either is true): its number.", () -> {
            answersAfter("a pair", TERMS, SOME, x -> x.join(FIVE, SIX, false));
            answersAfter("an either", TERMS, SOME, x -> x.join(FIVE, SIX, true));
            answersAfter("words of the pair", 1, SOME, x -> x.count(x.join(FIVE, SIX, false), 2));
            answersAfter("no words of one letter", 0, SOME, x -> x.count(x.join(FIVE, SIX, false), 1));
            answersAfter("words of the either", 2, SOME, x -> x.count(x.join(FIVE, SIX, true), 1));
            answersAfter("no words of two letters", 0, SOME, x -> x.count(x.join(FIVE, SIX, true), 2));
            answersAfter("the first part is a", 32, SOME, x -> x.type(x.join(FIVE, SIX, false), 1));
            answersAfter("though b was made before", 64, SOME, x -> x.type(x.join(SIX, FIVE, false), 1));
        });
        Sentences.test(where, "IndexOutOfBoundsException when there is no term a or b;", () -> {
            needsTerm("join(a)", SOME, TERMS, (x, a) -> x.join(a, FIVE, true));
            needsTerm("join(b)", SOME, TERMS, (x, b) -> x.join(FIVE, b, false));
            needsTerm("join(a, b)", SOME, TERMS, (x, a) -> x.join(a, a, false));
            needsTerm("join(a), b is a part", SOME, TERMS, (x, a) -> x.join(a, 0, true));
            needsTerm("join(b), a is a part", SOME, TERMS, (x, b) -> x.join(0, b, true));
            needsTerm("join(a), full", FULL, 48, (x, a) -> x.join(a, FIVE, true));
            needsTerm("join(b), full", FULL, 48, (x, b) -> x.join(FIVE, b, true));
            Twins.refuses("two that were cleared", INDEX, both(SOME, Counted::clear),
                    x -> x.join(FIVE, SIX, true));
            answersAfter("the last term", TERMS, SOME, x -> x.join(OPEN, FIVE, true));
            answersAfter("the first term", 2, x -> x.leaf(0), x -> x.join(0, x.leaf(1), true));
        });
        Sentences.test(where, "IllegalStateException when one is a part already, or they are one;", () -> {
            for (Twins.Deed made : new Twins.Deed[] {SOME, FULL}) {
                for (int part : new int[] {0, 1, 2, 3, 4, 5, 6, 8, 9, 11, 13}) {
                    Twins.refuses("join of part " + part, STATE, made, x -> x.join(part, FIVE, false));
                    Twins.refuses("join with part " + part, STATE, made, x -> x.join(FIVE, part, true));
                }
                Twins.refuses("two parts", STATE, made, x -> x.join(0, 1, true));
                Twins.refuses("one that is free", STATE, made, x -> x.join(FIVE, FIVE, true));
                Twins.refuses("one that is a part", STATE, made, x -> x.join(0, 0, true));
            }
            answersAfter("two that are not", TERMS, SOME, x -> x.join(NESTED, DOUBLE_ONE, true));
        });
        Sentences.test(where, "UnsupportedOperationException when there are 48 terms.",
                () -> needsRoom(x -> x.join(FIVE, SIX, true), x -> x.join(NESTED, OPEN, false)));
    }

    private static void knot() {
        String where = "Promise 5: knot";
        Sentences.test(where, "A new KNOT: its number.", () -> {
            answersAfter("a knot", TERMS, SOME, x -> x.knot(3, OPEN));
            answersAfter("its variable", 0, SOME, x -> x.fault(x.knot(3, x.join(FIVE, OPEN, false))));
            answersAfter("another variable", 8 * OPEN + 1, SOME,
                    x -> x.fault(x.knot(2, x.join(FIVE, OPEN, false))));
            answersAfter("words of its part", 1, SOME, x -> x.count(x.knot(0, FIVE), 1));
        });
        Sentences.test(where, "IndexOutOfBoundsException when there is no term a;", () -> {
            needsTerm("knot", SOME, TERMS, (x, a) -> x.knot(0, a));
            needsTerm("knot 4", SOME, TERMS, (x, a) -> x.knot(4, a));
            needsTerm("knot, full", FULL, 48, (x, a) -> x.knot(0, a));
            needsTerm("knot -1, full", FULL, 48, (x, a) -> x.knot(-1, a));
            Twins.refuses("one that was cleared", INDEX, both(SOME, Counted::clear), x -> x.knot(0, FIVE));
        });
        Sentences.test(where, "IllegalStateException when it is a part already;", () -> {
            for (Twins.Deed made : new Twins.Deed[] {SOME, FULL}) {
                for (int part : new int[] {0, 1, 2, 3, 4, 5, 6, 8, 9, 11, 12, 13}) {
                    Twins.refuses("knot of part " + part, STATE, made, x -> x.knot(0, part));
                    Twins.refuses("knot 4 of part " + part, STATE, made, x -> x.knot(4, part));
                }
            }
            answersAfter("one that is not", TERMS, SOME, x -> x.knot(0, NESTED));
        });
        Sentences.test(where, "IllegalArgumentException when v is not 0 .. 3;", () -> {
            for (int v : new int[] {-1, 4, -2, 5, LEAST, MOST}) {
                Twins.refuses("knot(" + v + ")", ARGUMENT, SOME, x -> x.knot(v, FIVE));
                Twins.refuses("knot(" + v + ") of three knots", ARGUMENT, SOME, x -> x.knot(v, THREE_KNOTS));
                Twins.refuses("knot(" + v + ") when full", ARGUMENT, FULL, x -> x.knot(v, FIVE));
            }
            answersAfter("knot(0)", TERMS, SOME, x -> x.knot(0, FIVE));
            answersAfter("knot(3)", TERMS, SOME, x -> x.knot(3, FIVE));
        });
    }

    private static void knotRoom() {
        Sentences.test("Promise 5: knot",
                "UnsupportedOperationException when there are 48 terms, or a has three knots in one another already.",
                () -> {
            needsRoom(x -> x.knot(0, FIVE), x -> x.knot(3, OPEN));
            for (int v = 0; v < 4; v++) {
                int which = v;
                Twins.refuses("a fourth knot", ROOM, SOME, x -> x.knot(which, THREE_KNOTS));
                Twins.refuses("a fourth knot when full", ROOM, FULL, x -> x.knot(which, THREE_KNOTS));
            }
            answersAfter("a second knot", TERMS, SOME, x -> x.knot(0, NESTED));
            answersAfter("a third knot", TERMS + 1, SOME, x -> x.knot(0, x.knot(0, NESTED)));
            Twins.refuses("a fourth knot by knots", ROOM, both(SOME, x -> x.knot(0, x.knot(0, NESTED))),
                    x -> x.knot(0, TERMS + 1));
            Twins.Deed left = both(SOME, x -> x.join(THREE_KNOTS, NESTED, true));
            Twins.refuses("three knots in the first part", ROOM, left, x -> x.knot(0, TERMS));
            Twins.Deed right = both(SOME, x -> x.join(NESTED, THREE_KNOTS, false));
            Twins.refuses("three knots in the second part", ROOM, right, x -> x.knot(0, TERMS));
            Twins.Deed beside = x -> Check.build(x, ".WX0.WX1WX2");
            answersAfter("two knots beside two and two", 11, beside, x -> x.knot(0, 10));
            Twins.refuses("then there are three", ROOM, both(beside, x -> x.knot(0, 10)), x -> x.knot(0, 11));
        });
    }

    private static void clear() {
        Sentences.test("Promise 6: clear", "All terms go.", () -> {
            for (Twins.Deed made : new Twins.Deed[] {NEW, SOME, FULL}) {
                Twins.Deed cleared = both(made, Counted::clear);
                answersAfter("terms", 0, cleared, Counted::terms);
                needsTerm("fault", cleared, 0, Counted::fault);
                needsTerm("read", cleared, 0, Counted::read);
                needsTerm("knot", cleared, 0, (x, a) -> x.knot(0, a));
                answersAfter("cleared once more", 0, both(cleared, Counted::clear), Counted::terms);
                answersAfter("the first number again", 0, cleared, x -> x.variable(0));
                answersAfter("room for 48 again", 48, both(cleared, Ask::fill), Counted::terms);
            }
            Twins.Deed cleared = both(SOME, Counted::clear);
            answersAfter("no parts", 2, cleared, x -> x.join(x.leaf(0), x.leaf(1), false));
            answersAfter("no knots", 15, both(both(SOME, Counted::clear), x -> Ask.fillTo(x, 15)),
                    x -> x.knot(0, THREE_KNOTS));
            answersAfter("another term by its number", 128, cleared, x -> x.type(x.leaf(7), 1));
            nothingOfOldTerms();
            answersAfter("terms go, the word stays", 3, cleared, Counted::length);
            answersAfter("its letters, too", 1, cleared, x -> x.letter(2));
            answersAfter("terms go, the trace stays", 2, cleared, Counted::trace);
            answersAfter("its steps, too", 1, cleared, x -> x.step(1));
            answersAfter("terms go, the place stays", 3, cleared, Counted::stopped);
        });
    }

    /** Whatever there was before, new terms answer as those of a new object do. */
    private static void nothingOfOldTerms() {
        String[] texts = {"W.0w", "W|0w", "w", "W|..0w1e", ".e0", "W|.0|1ww", "W.w0", "|ee", "W.0Ww", ".0W|e.1w",
            "X.W..1wx|eWx", "n", ".|07|1e", "WXY7"};
        for (String old : texts) {
            for (String text : texts) {
                Twins.alike(text + " after " + old, x -> Check.build(x, text), x -> {
                    int root = Check.build(x, old);
                    for (int term = 0; term <= root; term++) {
                        x.fault(term);
                    }
                    if (x.fault(root) == 0) {
                        x.count(root, 4);
                    }
                    x.clear();
                    Check.build(x, text);
                });
            }
        }
    }

    private static void terms() {
        Sentences.test("Promise 7: terms", "How many terms there are.", () -> {
            Twins.asks("none", 0, NEW, Counted::terms);
            Twins.asks("some", TERMS, SOME, Counted::terms);
            Twins.asks("48", 48, FULL, Counted::terms);
            for (int terms = 1; terms <= 48; terms++) {
                int most = terms;
                answersAfter("terms", terms, x -> Ask.fillTo(x, most), Counted::terms);
            }
            answersAfter("by a leaf", TERMS + 1, both(SOME, x -> x.leaf(0)), Counted::terms);
            answersAfter("by a variable", TERMS + 1, both(SOME, x -> x.variable(0)), Counted::terms);
            answersAfter("by a join", TERMS + 1, both(SOME, x -> x.join(FIVE, SIX, true)), Counted::terms);
            answersAfter("by a knot", TERMS + 1, both(SOME, x -> x.knot(0, SIX)), Counted::terms);
        });
    }

    private static void fault() {
        String where = "Promise 8: fault";
        Sentences.test(where,
                "What keeps a term from being TYPED: 0 nothing, 1 UNBOUND, 2 UNGUARDED, 3 LOOSE, 4 DOUBLE;", () -> {
            Ask.hasFault("nothing", 0, -1, "0");
            Ask.hasFault("UNBOUND", 1, 0, "w");
            Ask.hasFault("UNGUARDED", 2, 0, "Ww");
            Ask.hasFault("LOOSE", 3, 2, ".e0");
            Ask.hasFault("DOUBLE", 4, 2, "|00");
            Twins.asks("nothing", 0, SOME, x -> x.fault(NESTED));
            Twins.asks("something", 8 * DOUBLE_ONE + 4, SOME, x -> x.fault(DOUBLE_ONE));
        });
        Sentences.test(where, "and 8 times the term where that is (of 0: 0).", () -> {
            answersAfter("0, of the last term", 0, FULL, x -> x.fault(47));
            answersAfter("0, of another one", 0, SOME, x -> x.fault(THREE_KNOTS));
            answersAfter("the first term", 1, NEW, x -> x.fault(x.variable(0)));
            answersAfter("the last term", 8 * 47 + 1, x -> Ask.fillTo(x, 47), x -> x.fault(x.variable(0)));
            answersAfter("the last term, DOUBLE", 8 * 47 + 4, x -> Ask.fillTo(x, 47), x -> x.fault(x.join(3, 4, true)));
            answersAfter("not the term that is asked for", 8 * OPEN + 1, SOME,
                    x -> x.fault(x.join(FIVE, OPEN, false)));
            answersAfter("where it is a part", 8 * 1 + 1, SOME, x -> x.fault(6));
        });
        Sentences.test(where, "IndexOutOfBoundsException when there is no such term.", () -> {
            needsTerm("fault", NEW, 0, Counted::fault);
            needsTerm("fault", SOME, TERMS, Counted::fault);
            needsTerm("fault", FULL, 48, Counted::fault);
            Twins.refuses("one that was cleared", INDEX, both(SOME, Counted::clear), x -> x.fault(FIVE));
        });
    }

    private static void type() {
        String where = "Promise 9: type";
        Sentences.test(where, "The TYPE of a term, taken by itself: part 0: 1 if it is nullable, else 0; 1: FIRST;"
                + " 2: AFTER.", () -> {
            Ask.hasType("nullable", "|e.0|1e", 1, 1, 2);
            Ask.hasType("not nullable", ".4||56e", 0, 16, 96);
            Ask.hasType("all letters", ALL, 1, 255, 255);
            Ask.hasType("nothing", "n", 0, 0, 0);
            Twins.asks("by itself, a part", 1, SOME, x -> x.type(5, 0));
            Twins.asks("by itself, a whole", 1, SOME, x -> x.type(NESTED, 1));
            // Round it the variable has a type, by itself it has none.
            Twins.refuses("by itself, a variable's pair", STATE, SOME, x -> x.type(2, 1));
        });
        Sentences.test(where, "IndexOutOfBoundsException when there is no such term or part;", () -> {
            needsTerm("type 0", SOME, TERMS, (x, term) -> x.type(term, 0));
            needsTerm("type 2", FULL, 48, (x, term) -> x.type(term, 2));
            needsTerm("type 3", FULL, 48, (x, term) -> x.type(term, 3));
            for (int part : new int[] {-1, 3, -2, 4, LEAST, MOST}) {
                Twins.refuses("part " + part, INDEX, SOME, x -> x.type(NESTED, part));
                Twins.refuses("part " + part + " of one not typed", INDEX, SOME, x -> x.type(DOUBLE_ONE, part));
            }
        });
        Sentences.test(where, "IllegalStateException when the term is not typed.", () -> {
            for (int part = 0; part < 3; part++) {
                int which = part;
                Twins.refuses("DOUBLE", STATE, SOME, x -> x.type(DOUBLE_ONE, which));
                Twins.refuses("UNBOUND", STATE, SOME, x -> x.type(OPEN, which));
                Twins.refuses("UNGUARDED", STATE, x -> Check.build(x, "Ww"), x -> x.type(1, which));
                Twins.refuses("LOOSE", STATE, x -> Check.build(x, ".e0"), x -> x.type(2, which));
            }
        });
    }

    private static void put() {
        String where = "Promise 10: put";
        Sentences.test(where, "A letter more at the word's end.", () -> {
            Counted x = new Counted();
            StringBuilder due = new StringBuilder();
            for (int i = 0; i < 40; i++) {
                int letter = i * 5 % 8;
                due.append(letter);
                Check.answers("put " + i, 1, () -> x.put(letter) ? 1 : 0);
                Check.answers("the length", due.length(), x::length);
                Check.answers("the word's end", letter, () -> x.letter(due.length() - 1));
            }
            Check.same("the word", due.toString(), Check.word(x));
            answersAfter("no term", TERMS, both(SOME, y -> y.put(0)), Counted::terms);
        });
        Sentences.test(where, "False, changing nothing, when it is none, or the word has 40.", () -> {
            for (int letter : new int[] {-1, 8, -2, 9, LEAST, MOST}) {
                Twins.denies("put(" + letter + ")", NEW, x -> x.put(letter));
                Twins.denies("put(" + letter + ") behind others", SOME, x -> x.put(letter));
                Twins.denies("put(" + letter + ") behind 40", word(40), x -> x.put(letter));
            }
            for (int letter = 0; letter < 8; letter++) {
                int which = letter;
                Twins.denies("put(" + letter + ") behind 40", both(SOME, word(40)), x -> x.put(which));
                answersAfter("put(" + letter + ") behind 39", 1, word(39), x -> x.put(which) ? 1 : 0);
                answersAfter("put(" + letter + ") behind none", 1, NEW, x -> x.put(which) ? 1 : 0);
            }
            answersAfter("40 then", 40, both(word(39), x -> x.put(0)), Counted::length);
            answersAfter("put when one of 40 was cut", 1, both(word(40), x -> x.cut(39)), x -> x.put(0) ? 1 : 0);
        });
    }

    private static void cut() {
        String where = "Promise 11: cut";
        Sentences.test(where, "The word keeps its first n letters.", () -> {
            for (int n = 0; n <= 8; n++) {
                Counted x = new Counted();
                word(8).go(x);
                int most = n;
                Check.answers("cut " + n, 1, () -> x.cut(most) ? 1 : 0);
                Check.same("the word", "01234567".substring(0, n), Check.word(x));
                x.put(7);
                Check.same("and one more", "01234567".substring(0, n) + "7", Check.word(x));
            }
            answersAfter("none of none", 1, NEW, x -> x.cut(0) ? 1 : 0);
            answersAfter("40 of 40", 1, word(40), x -> x.cut(40) ? 1 : 0);
            answersAfter("39 of 40", 39, both(word(40), x -> x.cut(39)), Counted::length);
        });
        Sentences.test(where, "False, changing nothing, when n is negative, or it has not so many.", () -> {
            for (int letters : new int[] {0, 1, 39, 40}) {
                for (int n : new int[] {-1, letters + 1, -2, letters + 2, LEAST, MOST}) {
                    Twins.denies("cut(" + n + ") of " + letters, both(SOME, word(letters)), x -> x.cut(n));
                }
            }
            Twins.denies("letters that were cut", both(word(8), x -> x.cut(4)), x -> x.cut(5));
        });
    }

    private static void length() {
        Sentences.test("Promise 12: length", "The word's length.", () -> {
            for (int letters = 0; letters <= 40; letters++) {
                answersAfter("length", letters, word(letters), Counted::length);
            }
            Twins.asks("of none", 0, NEW, Counted::length);
            Twins.asks("of some", 3, SOME, Counted::length);
            answersAfter("when it was cut", 2, both(SOME, x -> x.cut(2)), Counted::length);
            answersAfter("when it was found", 16, x -> x.find(Check.build(x, ROW), 16, 0), Counted::length);
        });
    }

    private static void letter() {
        String where = "Promise 13: letter";
        Sentences.test(where, "Letter i of the word.", () -> {
            for (int i = 0; i < 40; i++) {
                int which = i;
                answersAfter("letter " + i, i % 8, word(40), x -> x.letter(which));
            }
            Twins.asks("the first one", 0, SOME, x -> x.letter(0));
            Twins.asks("the last one", 1, SOME, x -> x.letter(2));
            answersAfter("of a word that was found", 7, x -> x.find(x.leaf(7), 1, 0), x -> x.letter(0));
        });
        Sentences.test(where, "IndexOutOfBoundsException when there is none.", () -> {
            for (int letters : new int[] {0, 1, 39, 40}) {
                for (int i : new int[] {-1, letters, -2, letters + 1, LEAST, MOST}) {
                    Twins.refuses("letter " + i + " of " + letters, INDEX, both(SOME, word(letters)),
                            x -> x.letter(i));
                }
            }
            Twins.refuses("a letter that was cut", INDEX, both(word(8), x -> x.cut(4)), x -> x.letter(4));
            answersAfter("the last letter that was kept", 3, both(word(8), x -> x.cut(4)), x -> x.letter(3));
        });
    }

    private static void read() {
        String where = "Promise 14: read";
        Sentences.test(where, "READS the word by a term: how many terms are VISITED.", () -> {
            Ask.reads("one", "e", "", 1, "");
            Ask.reads("some", "W|..0w1e", "0011", 17, "001");
            Ask.reads("40 letters", ROW, "0".repeat(40), 203, "1".repeat(40) + "0");
            answersAfter("the last term of 48", 1, x -> Ask.fillTo(x, 48), x -> x.read(47));
            answersAfter("a part", 1, both(SOME, x -> x.cut(1)), x -> x.read(0));
            Counted x = new Counted();
            SOME.go(x);
            x.cut(0);
            Check.answers("read", 3, () -> x.read(NESTED));
            Check.answers("read again", 3, () -> x.read(NESTED));
            Check.same("the word stays", "", Check.word(x));
            Check.answers("the terms stay", TERMS, x::terms);
            readsAfresh();
        });
        Sentences.test(where, "IndexOutOfBoundsException when there is no such term;", () -> {
            needsTerm("read", NEW, 0, Counted::read);
            needsTerm("read", SOME, TERMS, Counted::read);
            needsTerm("read", FULL, 48, Counted::read);
        });
        Sentences.test(where, "IllegalStateException when it is not typed;", () -> {
            Twins.refuses("DOUBLE", STATE, SOME, x -> x.read(DOUBLE_ONE));
            Twins.refuses("DOUBLE, though its parts read it", STATE, both(SOME, word(1)), x -> x.read(DOUBLE_ONE));
            Twins.refuses("UNBOUND", STATE, SOME, x -> x.read(OPEN));
            Twins.refuses("UNGUARDED", STATE, x -> Check.build(x, "W|0w"), x -> x.read(3));
            Twins.refuses("LOOSE", STATE, x -> Check.build(x, ".ee"), x -> x.read(2));
        });
        Sentences.test(where, "IllegalArgumentException when the word is not read.", () -> {
            Twins.refusesWord("too few letters", 3, SOME, NESTED);
            Twins.refusesWord("another letter", 0, SOME, THREE_KNOTS);
            Twins.refusesWord("letters left", 1, both(SOME, x -> Check.spell(x, "56")), FIVE);
            Twins.refusesWord("no letters", 0, both(SOME, x -> x.cut(0)), FIVE);
            Twins.refusesWord("40 letters", 40, x -> {
                Check.build(x, "W|1.0w");
                Check.spell(x, "0".repeat(40));
            }, 5);
        });
    }

    /** What was still to be read when a word could not be is not read with the next one. */
    private static void readsAfresh() {
        Counted x = new Counted();
        int nested = Check.build(x, "W|..0w1e");
        Check.spell(x, "0000");
        Check.fails("too few ones", ARGUMENT, () -> x.read(nested));
        Check.answers("stopped", 4, x::stopped);
        x.cut(0);
        Check.answers("visits of the next word", 3, () -> x.read(nested));
        Check.same("its trace", "1", Check.trace(x));
        Check.spell(x, "0011");
        Check.answers("visits of one more", 17, () -> x.read(nested));
        Check.same("its trace", "001", Check.trace(x));
    }

    private static void stopped() {
        String where = "Promise 15: stopped";
        Sentences.test(where, "The place that was told when the latest read() threw an IllegalArgumentException;",
                () -> {
            for (int place = 0; place <= 40; place++) {
                Ask.stops("at each place", "W|1.0w", "0".repeat(place), place);
            }
            Twins.asks("told", 3, SOME, Counted::stopped);
            Counted x = new Counted();
            SOME.go(x);
            Check.fails("a later read", ARGUMENT, () -> x.read(FIVE));
            Check.answers("the latest one", 0, x::stopped);
            Check.fails("read of no term", INDEX, () -> x.read(TERMS));
            Check.answers("not by one that threw something else", 0, x::stopped);
            Check.fails("read of one that is not typed", STATE, () -> x.read(DOUBLE_ONE));
            Check.answers("nor by another one", 0, x::stopped);
            Twins.Deed others = both(SOME, y -> {
                y.put(1);
                y.cut(0);
                y.find(NESTED, 2, 0);
                y.count(NESTED, 2);
                y.fault(NESTED);
                y.clear();
            });
            answersAfter("nor by other calls", 3, others, Counted::stopped);
        });
        Sentences.test(where, "NONE when the latest one that threw nothing else did not, or there was none.", () -> {
            answersAfter("there was none", -1, NEW, Counted::stopped);
            Counted x = new Counted();
            Check.fails("read of no term", INDEX, () -> x.read(0));
            Check.answers("there was none but one that threw something else", -1, x::stopped);
            SOME.go(x);
            x.cut(0);
            Check.answers("read", 3, () -> x.read(NESTED));
            Check.answers("the latest one did not", -1, x::stopped);
            Check.fails("read of one that is not typed", STATE, () -> x.read(DOUBLE_ONE));
            Check.answers("still, when one threw something else", -1, x::stopped);
            Check.fails("read of no term", INDEX, () -> x.read(-1));
            Check.answers("still, when another one did", -1, x::stopped);
            Check.fails("a read that threw it", ARGUMENT, () -> x.read(FIVE));
            Check.answers("no more", 0, x::stopped);
        });
    }

    private static void trace() {
        Sentences.test("Promise 16: trace", "How many steps the TRACE of the word that was read last has (it stays"
                + " until another one is read).", () -> {
            answersAfter("none was read", 0, NEW, Counted::trace);
            for (int letters = 0; letters <= 40; letters++) {
                Ask.reads("each length", ROW, "0".repeat(letters), letters * 5 + 3, "1".repeat(letters) + "0");
            }
            Twins.asks("one was read", 2, SOME, Counted::trace);
            Counted x = new Counted();
            SOME.go(x);
            Check.same("it stays when a word is not read", "01", Check.trace(x));
            Check.fails("read of no term", INDEX, () -> x.read(TERMS));
            Check.fails("read of one not typed", STATE, () -> x.read(DOUBLE_ONE));
            Check.fails("read of another one", ARGUMENT, () -> x.read(SIX));
            x.find(SIX, 1, 0);
            Check.same("it stays", "01", Check.trace(x));
            Check.answers("another one", 1, () -> x.read(SIX));
            Check.same("is read, without steps", "", Check.trace(x));
            x.cut(0);
            Check.answers("another one", 3, () -> x.read(NESTED));
            Check.same("is read, with one", "1", Check.trace(x));
            x.clear();
            Check.same("it stays when the terms go", "1", Check.trace(x));
        });
    }

    private static void step() {
        String where = "Promise 17: step";
        Sentences.test(where, "Step i of it.", () -> {
            Twins.asks("the first one", 0, SOME, x -> x.step(0));
            Twins.asks("the last one", 1, SOME, x -> x.step(1));
            // 39 times by two eithers, and an end: 80 steps.
            Ask.reads("a long one", "W||1.0wn", "0".repeat(39) + "1", 39 * 6 + 4, "01".repeat(39) + "00");
            Ask.reads("a long one, otherwise", "W|n|.0w1", "0".repeat(39) + "1", 39 * 6 + 4, "10".repeat(39) + "11");
        });
        Sentences.test(where, "IndexOutOfBoundsException when there is none.", () -> {
            for (int i : new int[] {-1, 2, -2, 3, 63, 64, LEAST, MOST}) {
                Twins.refuses("step " + i + " of 2", INDEX, SOME, x -> x.step(i));
            }
            Twins.refuses("step 0 of none", INDEX, NEW, x -> x.step(0));
            Twins.refuses("step 0 of a word without", INDEX, both(SOME, x -> {
                x.find(FIVE, 1, 0);
                x.read(FIVE);
            }), x -> x.step(0));
            Twins.Deed forty = x -> {
                int row = Check.build(x, ROW);
                Check.spell(x, "0".repeat(40));
                x.read(row);
            };
            answersAfter("step 40 of 41", 0, forty, x -> x.step(40));
            Twins.refuses("step 41 of 41", INDEX, forty, x -> x.step(41));
            // What was longer before has no more steps than what was read last.
            Twins.refuses("a step of what was read before", INDEX, both(forty, x -> {
                x.cut(1);
                x.read(5);
            }), x -> x.step(2));
        });
    }

    private static void count() {
        String where = "Promise 18: count";
        Sentences.test(where, "How many words of n letters a term has.", () -> {
            Ask.counts("all lengths", "W|..0w1e", 1, 0, 1, 0, 1, 0, 1, 0, 1, 0, 1, 0, 1, 0, 1, 0, 1);
            for (int n = 0; n <= 16; n++) {
                int length = n;
                answersAfter("all words of " + n, 1L << (3 * n), x -> Check.build(x, ALL),
                        x -> x.count(ALL_WORDS, length));
            }
            Twins.asks("some", 1, SOME, x -> x.count(NESTED, 4));
            Twins.asks("none", 0, SOME, x -> x.count(NESTED, 3));
            answersAfter("the last term", 1, FULL, x -> x.count(47, 0));
            Counted x = new Counted();
            int all = Check.build(x, ALL);
            int letter = x.leaf(3);
            Check.answers("16, then", 1L << 48, () -> x.count(all, 16));
            Check.answers("fewer", 8, () -> x.count(all, 1));
            Check.answers("another term's", 0, () -> x.count(letter, 16));
            Check.answers("and back", 64, () -> x.count(all, 2));
        });
        Sentences.test(where, "IndexOutOfBoundsException when there is no such term;", () -> {
            needsTerm("count", NEW, 0, (x, term) -> x.count(term, 0));
            needsTerm("count", SOME, TERMS, (x, term) -> x.count(term, 16));
            needsTerm("count of 17", FULL, 48, (x, term) -> x.count(term, 17));
        });
        Sentences.test(where, "IllegalStateException when it is not typed;", () -> {
            for (int n : new int[] {-1, 0, 1, 16, 17}) {
                Twins.refuses("DOUBLE, " + n, STATE, SOME, x -> x.count(DOUBLE_ONE, n));
                Twins.refuses("UNBOUND, " + n, STATE, SOME, x -> x.count(OPEN, n));
                Twins.refuses("UNGUARDED, " + n, STATE, x -> Check.build(x, "W|0w"), x -> x.count(3, n));
                Twins.refuses("LOOSE, " + n, STATE, x -> Check.build(x, ".ee"), x -> x.count(2, n));
            }
        });
        Sentences.test(where, "IllegalArgumentException when n is not 0 .. 16.", () -> {
            for (int n : new int[] {-1, 17, -2, 18, LEAST, MOST}) {
                Twins.refuses("count of " + n, ARGUMENT, SOME, x -> x.count(NESTED, n));
            }
            Twins.asks("count of 0", 1, SOME, x -> x.count(NESTED, 0));
            Twins.asks("count of 16", 1, SOME, x -> x.count(NESTED, 16));
        });
    }

    private static void find() {
        String where = "Promise 19: find";
        Sentences.test(where, "The word becomes that of n letters with a number, of those that the term has.",
                BoundsOfPromises::findWords);
        Sentences.test(where, "IndexOutOfBoundsException, IllegalStateException and IllegalArgumentException as for"
                + " count;", () -> {
            needsTerm("find", SOME, TERMS, (x, term) -> x.find(term, 2, 0));
            needsTerm("find of 17 letters", FULL, 48, (x, term) -> x.find(term, 17, -1));
            for (int n : new int[] {-1, 0, 1, 16, 17}) {
                Twins.refuses("DOUBLE, " + n, STATE, SOME, x -> x.find(DOUBLE_ONE, n, 0));
                Twins.refuses("UNBOUND, " + n, STATE, SOME, x -> x.find(OPEN, n, -1));
            }
            Twins.refuses("UNGUARDED", STATE, x -> Check.build(x, "W|0w"), x -> x.find(3, 1, 0));
            Twins.refuses("LOOSE", STATE, x -> Check.build(x, ".ee"), x -> x.find(2, 0, 0));
            for (int n : new int[] {-1, 17, -2, 18, LEAST, MOST}) {
                Twins.refuses("find of " + n, ARGUMENT, SOME, x -> x.find(NESTED, n, 0));
                Twins.refuses("find of " + n + ", and no number", ARGUMENT, SOME, x -> x.find(NESTED, n, -1));
            }
        });
        Sentences.test(where, "NoSuchElementException when there is none with that number.", () -> {
            Twins.Deed all = x -> {
                Check.build(x, ALL);
                word(40).go(x);
            };
            for (int n : new int[] {0, 1, 2, 11, 16}) {
                long words = 1L << (3 * n);
                for (long number : new long[] {-1, words, words + 1, Long.MIN_VALUE, Long.MAX_VALUE, 1L << 62}) {
                    Twins.refuses("find " + number + " of " + words, ELEMENT, all, x -> x.find(ALL_WORDS, n, number));
                }
                answersAfter("the last one of " + n, n == 0 ? 0 : 7, all, x -> {
                    x.find(ALL_WORDS, n, words - 1);
                    return n == 0 ? x.length() : x.letter(n - 1);
                });
            }
            Twins.refuses("there are none", ELEMENT, SOME, x -> x.find(NESTED, 3, 0));
            Twins.refuses("more than an int holds", ELEMENT, SOME, x -> x.find(NESTED, 2, 1L << 32));
        });
    }

    private static void findWords() {
        Ask.finds("none of more letters", "W|..0w1e", 0, "");
        Ask.finds("16 letters", "W|..0w1e", 16, "0000000011111111");
        Ask.finds("brackets", "W|..0w.1we", 6, "000111", "001011", "001101", "010011", "010101");
        Counted x = new Counted();
        int all = Check.build(x, ALL);
        word(40).go(x);
        x.find(all, 16, 01234567012345670L);
        Check.same("a shorter word", "1234567012345670", Check.word(x).substring(0, 16));
        Check.answers("16 letters", 16, x::length);
        x.find(all, 0, 0);
        Check.same("the word without letters", "", Check.word(x));
        x.find(all, 2, 067);
        Check.same("a longer word", "67", Check.word(x));
        for (long number = 0; number < 64; number++) {
            x.find(all, 2, number);
            Check.same("each word", "" + number / 8 + number % 8, Check.word(x));
        }
        answersAfter("the terms stay", TERMS, both(SOME, y -> y.find(NESTED, 2, 0)), Counted::terms);
        answersAfter("the trace stays", 2, both(SOME, y -> y.find(NESTED, 0, 0)), Counted::trace);
    }
}
