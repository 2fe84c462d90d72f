import java.util.NoSuchElementException;

/** Promise by promise: ordinary inputs, the edges that the document names, and wrong inputs. */
public final class PromisesTest {
    private static final Class<IndexOutOfBoundsException> INDEX = IndexOutOfBoundsException.class;
    private static final Class<IllegalStateException> STATE = IllegalStateException.class;
    private static final Class<IllegalArgumentException> ARGUMENT = IllegalArgumentException.class;
    private static final Class<UnsupportedOperationException> ROOM = UnsupportedOperationException.class;
    private static final Class<NoSuchElementException> ELEMENT = NoSuchElementException.class;

    // As many zeros as ones behind them, or nothing.
    private static final String NESTED = "W|..0w1e";
    // Rows of zeros and ones between 2 and 3, in one another.
    private static final String LISTS = "W|0.2.X|1.wx3";

    private PromisesTest() {
    }

    public static void main(String[] args) {
        newObject();
        leaf();
        variable();
        join();
        joinThrowsInOrder();
        knot();
        knotThrowsInOrder();
        clear();
        terms();
        faultKinds();
        faultMetFirst();
        faultByItself();
        type();
        typeOfPairs();
        put();
        cut();
        letter();
        read();
        readEithers();
        readStops();
        readThrows();
        stopped();
        trace();
        count();
        countThrows();
        find();
        findThrows();
        Check.end();
    }

    private static void newObject() {
        Counted x = new Counted();
        Check.answers("NONE", -1, () -> GuardedGrammar.NONE);
        Check.answers("terms of a new object", 0, x::terms);
        Check.answers("length of a new object", 0, x::length);
        Check.answers("stopped of a new object", -1, x::stopped);
        Check.answers("trace of a new object", 0, x::trace);
        Check.fails("letter of a new object", INDEX, () -> x.letter(0));
        Check.fails("step of a new object", INDEX, () -> x.step(0));
        Check.fails("fault of a new object", INDEX, () -> x.fault(0));
        Counted y = new Counted();
        y.leaf(0);
        y.put(1);
        Check.answers("terms of another object", 0, x::terms);
        Check.answers("length of another object", 0, x::length);
    }

    private static void leaf() {
        Counted x = new Counted();
        Check.fails("leaf(-3)", ARGUMENT, () -> x.leaf(-3));
        Check.fails("leaf(8)", ARGUMENT, () -> x.leaf(8));
        Check.fails("leaf(least)", ARGUMENT, () -> x.leaf(Integer.MIN_VALUE));
        Check.fails("leaf(most)", ARGUMENT, () -> x.leaf(Integer.MAX_VALUE));
        Check.answers("no terms by wrong leaves", 0, x::terms);
        for (int what = -2; what < 8; what++) {
            int kind = what;
            Check.answers("leaf " + what, what + 2, () -> x.leaf(kind));
        }
        Check.answers("NONE has no word", 0, () -> x.count(0, 0) + x.count(0, 1) + x.type(0, 0) + x.type(0, 1));
        Check.answers("EMPTY has the word without letters", 1, () -> x.count(1, 0) + x.count(1, 1));
        Check.answers("EMPTY is nullable", 1, () -> x.type(1, 0) + x.type(1, 1));
        for (int letter = 0; letter < 8; letter++) {
            int term = letter + 2;
            Check.answers("the first letter of leaf " + letter, 1 << letter, () -> x.type(term, 1));
            Check.answers("words of leaf " + letter, 1, () -> x.count(term, 0) + x.count(term, 1) + x.count(term, 2));
        }
        Ask.fill(x);
        Check.fails("leaf when full", ROOM, () -> x.leaf(0));
        Check.fails("wrong leaf when full", ARGUMENT, () -> x.leaf(8));
        Check.answers("48 terms", 48, x::terms);
    }

    private static void variable() {
        Counted x = new Counted();
        Check.fails("variable(-1)", ARGUMENT, () -> x.variable(-1));
        Check.fails("variable(4)", ARGUMENT, () -> x.variable(4));
        for (int v = 0; v < 4; v++) {
            int which = v;
            Check.answers("variable " + v, v, () -> x.variable(which));
        }
        Ask.fill(x);
        Check.fails("variable when full", ROOM, () -> x.variable(0));
        Check.fails("wrong variable when full", ARGUMENT, () -> x.variable(4));
        for (int v = 0; v < 4; v++) {
            Counted y = new Counted();
            int inner = Check.build(y, "|.0" + (char) ('w' + v) + "1");
            for (int w = 0; w < 4; w++) {
                Counted z = new Counted();
                int whole = Check.build(z, (char) ('W' + w) + "|.0" + (char) ('w' + v) + "1");
                Check.answers("knot " + w + " and variable " + v, v == w ? 0 : 8 + 1, () -> z.fault(whole));
            }
            Check.answers("no knot, and variable " + v, 8 + 1, () -> y.fault(inner));
        }
    }

    private static void join() {
        Counted x = new Counted();
        x.leaf(0);
        x.leaf(1);
        Check.answers("a pair", 2, () -> x.join(0, 1, false));
        Check.answers("words of a pair", 1, () -> x.count(2, 2));
        Check.answers("no shorter words of a pair", 0, () -> x.count(2, 1));
        x.leaf(2);
        x.leaf(3);
        Check.answers("an either", 5, () -> x.join(3, 4, true));
        Check.answers("words of an either", 2, () -> x.count(5, 1));
        Check.answers("no longer words of an either", 0, () -> x.count(5, 2));
        Check.answers("the second part made first", 6, () -> x.join(5, 2, false));
        x.find(6, 3, 0);
        Check.same("first part first", "201", Check.word(x));
    }

    private static void joinThrowsInOrder() {
        Counted x = new Counted();
        Check.build(x, ".01");
        Check.build(x, "2");
        Check.fails("join(-1, 2)", INDEX, () -> x.join(-1, 2, false));
        Check.fails("join(2, 4)", INDEX, () -> x.join(2, 4, false));
        Check.fails("join(4, 4)", INDEX, () -> x.join(4, 4, true));
        Check.fails("join of a part and none", INDEX, () -> x.join(0, 4, true));
        Check.fails("join(none, a part)", INDEX, () -> x.join(4, 0, true));
        Check.fails("join of one", STATE, () -> x.join(2, 2, true));
        Check.fails("join of a first part", STATE, () -> x.join(0, 2, true));
        Check.fails("join with a first part", STATE, () -> x.join(2, 0, false));
        Check.fails("join of a second part", STATE, () -> x.join(1, 2, false));
        Check.fails("join with a second part", STATE, () -> x.join(2, 1, true));
        Check.answers("a free one and one more", 4, () -> x.join(3, 2, true));
        Ask.fill(x);
        Check.fails("join when full", ROOM, () -> x.join(5, 6, true));
        Check.fails("join of a part when full", STATE, () -> x.join(0, 6, true));
        Check.fails("join of one when full", STATE, () -> x.join(6, 6, true));
        Check.fails("join of none when full", INDEX, () -> x.join(6, 48, true));
        Check.fails("join of less than none when full", INDEX, () -> x.join(Integer.MIN_VALUE, 6, true));
        Check.fails("one is not made a part by a join that throws", ROOM, () -> x.join(5, 6, false));
        x.clear();
        x.leaf(0);
        Check.fails("join when one term is there", INDEX, () -> x.join(0, 1, false));
        x.leaf(1);
        Check.answers("a term that was no part before", 2, () -> x.join(1, 0, false));
    }

    private static void knot() {
        Counted x = new Counted();
        x.leaf(0);
        Check.answers("a knot", 1, () -> x.knot(3, 0));
        Check.answers("words of a knot", 1, () -> x.count(1, 1));
        Check.answers("two knots", 2, () -> x.knot(3, 1));
        Check.answers("three knots", 3, () -> x.knot(3, 2));
        Check.fails("four knots", ROOM, () -> x.knot(3, 3));
        Check.answers("visits of three knots", 4, () -> x.put(0) ? x.read(3) : -1);
        x.leaf(1);
        Check.answers("an either of knots", 5, () -> x.join(4, 3, true));
        Check.fails("four knots round an either", ROOM, () -> x.knot(0, 5));
        x.leaf(2);
        Check.answers("a pair of knots", 7, () -> x.join(5, 6, false));
        Check.fails("four knots round a pair", ROOM, () -> x.knot(0, 7));
        Counted y = new Counted();
        int side = Check.build(y, ".W.0w.XY2WX1");
        Check.answers("knots side by side do not add up", side + 1, () -> y.knot(0, side));
        Check.fails("then there are three", ROOM, () -> y.knot(0, side + 1));
    }

    private static void knotThrowsInOrder() {
        Counted x = new Counted();
        int three = Check.build(x, "WXY0");
        Check.fails("knot(0, -1)", INDEX, () -> x.knot(0, -1));
        Check.fails("knot(0, terms)", INDEX, () -> x.knot(0, three + 1));
        Check.fails("knot(4, terms)", INDEX, () -> x.knot(4, three + 1));
        Check.fails("knot of a part", STATE, () -> x.knot(0, 0));
        Check.fails("wrong knot of a part", STATE, () -> x.knot(4, 0));
        Check.fails("wrong fourth knot", ARGUMENT, () -> x.knot(4, three));
        Check.fails("wrong fourth knot below 0", ARGUMENT, () -> x.knot(-1, three));
        Check.fails("fourth knot", ROOM, () -> x.knot(0, three));
        Ask.fill(x);
        Check.fails("knot when full", ROOM, () -> x.knot(0, 47));
        Check.fails("wrong knot when full", ARGUMENT, () -> x.knot(4, 47));
        Check.fails("knot of a part when full", STATE, () -> x.knot(4, 1));
        Check.fails("knot of none when full", INDEX, () -> x.knot(4, 48));
        Counted y = new Counted();
        y.leaf(0);
        y.knot(0, 0);
        Check.fails("join of a knot's part", STATE, () -> y.join(0, 1, true));
        Check.fails("a second knot of a part", STATE, () -> y.knot(1, 0));
        Check.answers("terms after calls that threw", 2, y::terms);
    }

    private static void clear() {
        Counted x = new Counted();
        int nested = Check.build(x, NESTED);
        Check.spell(x, "01");
        Check.answers("read", 10, () -> x.read(nested));
        x.clear();
        Check.answers("terms after clear", 0, x::terms);
        Check.fails("fault after clear", INDEX, () -> x.fault(0));
        Check.fails("read after clear", INDEX, () -> x.read(nested));
        Check.same("the word stays", "01", Check.word(x));
        Check.same("the trace stays", "01", Check.trace(x));
        x.clear();
        Check.answers("the first number again", 0, () -> x.leaf(1));
        Check.answers("another term by that number", 2, () -> x.type(0, 1));
        Check.answers("terms then", 1, x::terms);
        Check.fails("read of a shorter term", ARGUMENT, () -> x.read(0));
        x.clear();
        Check.answers("stopped stays", 0, x::stopped);
        Ask.fill(x);
        x.clear();
        Check.answers("room after clear", 0, () -> x.leaf(0));
        Check.answers("no old knots", 3, () -> x.knot(0, x.knot(0, x.knot(0, 0))));
    }

    private static void terms() {
        Counted x = new Counted();
        x.leaf(-1);
        Check.answers("terms: leaf", 1, x::terms);
        x.variable(0);
        Check.answers("terms: variable", 2, x::terms);
        x.join(0, 1, true);
        Check.answers("terms: join", 3, x::terms);
        x.knot(0, 2);
        Check.answers("terms: knot", 4, x::terms);
        Ask.fill(x);
        Check.answers("terms: full", 48, x::terms);
    }

    private static void faultKinds() {
        Counted empty = new Counted();
        Check.fails("fault(0) of none", INDEX, () -> empty.fault(0));
        Check.fails("fault(-1)", INDEX, () -> empty.fault(-1));
        Ask.hasFault("nothing: a letter", 0, -1, "0");
        Ask.hasFault("nothing: NONE", 0, -1, "n");
        Ask.hasFault("nothing: nested", 0, -1, NESTED);
        Ask.hasFault("unbound", 1, 0, "w");
        Ask.hasFault("unbound by another knot", 1, 1, "X.0w");
        Ask.hasFault("unbound behind a letter", 1, 1, ".0w");
        Ask.hasFault("bound by the innermost knot", 2, 1, "W.0Ww");
        Ask.hasFault("unguarded", 2, 0, "Ww");
        Ask.hasFault("unguarded in an either", 2, 1, "W|0w");
        Ask.hasFault("unguarded in a first part", 2, 0, "W.w0");
        Ask.hasFault("guarded in an either", 0, -1, "W|.0w1");
        Ask.hasFault("guarded through an inner knot", 0, -1, "W.0X|1.2|.3x|4w");
        Ask.hasFault("the outer variable unguarded in an inner knot, guarded outside", 0, -1, "W.0X|w.3x");
        Ask.hasFault("guarded outside its own knot only", 2, 2, "W.0X|1x");
        Ask.hasFault("guarded in a first part inside a second one", 0, -1, "W|.0.w12");
        Ask.hasFault("loose: nullable first part", 3, 2, ".e1");
        Ask.hasFault("loose: nullable either", 3, 4, ".|0e1");
        Ask.hasFault("loose: after and first", 3, 6, "..0|1e1");
        Ask.hasFault("not loose: after and another first", 0, -1, "..0|1e.21");
        Ask.hasFault("not loose: first and first", 0, -1, ".00");
        Ask.hasFault("not loose: last letter and first", 0, -1, "..011");
        Ask.hasFault("loose: by a knot", 3, 7, ".W.0|we0");
        Ask.hasFault("double: both nullable", 4, 2, "|ee");
        Ask.hasFault("double: first letters", 4, 2, "|00");
        Ask.hasFault("double: among more letters", 4, 6, "||01|12");
        Ask.hasFault("not double: one nullable", 0, -1, "|e0");
        Ask.hasFault("not double: other letters", 0, -1, "||01|23");
        Ask.hasFault("double: by a knot's type", 4, 7, "|W|.0w10");
        Ask.hasFault("not double: behind a first part", 0, -1, "|.01.10");
        Ask.hasFault("a pair first of NONE is not nullable", 0, -1, ".n.n0");
    }

    private static void faultMetFirst() {
        Ask.hasFault("left before right", 4, 2, "||00.e1");
        Ask.hasFault("left before right: loose", 3, 2, "|.e1|00");
        Ask.hasFault("parts before wholes", 4, 2, "||000");
        Ask.hasFault("parts before wholes, on the right", 4, 3, "|0|11");
        Ask.hasFault("a variable before its pair", 1, 1, ".ew");
        Ask.hasFault("a first part before a variable", 3, 2, "|.e0w");
        Ask.hasFault("unguarded in the middle", 2, 1, "W|0|w|00");
        Counted x = new Counted();
        int right = Check.build(x, ".e1");
        int left = Check.build(x, "|00");
        x.join(left, right, true);
        Check.answers("the left one counts, not the one made first", 8 * left + 4, () -> x.fault(6));
        Check.answers("the right one by itself", 8 * right + 3, () -> x.fault(right));
        Counted y = new Counted();
        y.variable(1);
        y.variable(0);
        y.leaf(5);
        y.join(2, 0, false);
        y.join(1, 3, true);
        Check.answers("numbers against the order", 8 * 1 + 1, () -> y.fault(4));
        Check.answers("of the second part alone", 1, () -> y.fault(3));
    }

    private static void faultByItself() {
        Counted x = new Counted();
        int whole = Check.build(x, NESTED);
        Check.answers("bound in the whole", 0, () -> x.fault(whole));
        Check.answers("unbound by itself", 8 * 1 + 1, () -> x.fault(1));
        Check.answers("unbound in a part", 8 * 1 + 1, () -> x.fault(whole - 1));
        Check.answers("a part without it", 0, () -> x.fault(3));
        Check.fails("one too many", INDEX, () -> x.fault(whole + 1));
        Check.answers("bound in the whole, as before", 0, () -> x.fault(whole));
        Counted y = new Counted();
        int loose = Check.build(y, "X|.0.|1x34");
        Check.answers("a part in a knot", 8 * 2 + 1, () -> y.fault(3));
        Check.answers("round it", 0, () -> y.fault(loose));
    }

    private static void type() {
        Ask.hasType("EMPTY", "e", 1, 0, 0);
        Ask.hasType("NONE", "n", 0, 0, 0);
        Ask.hasType("a letter", "3", 0, 8, 0);
        Ask.hasType("an either", "|03", 0, 9, 0);
        Ask.hasType("a nullable either", "||03e", 1, 9, 0);
        Ask.hasType("a nullable either, otherwise", "|e|03", 1, 9, 0);
        Ask.hasType("after of an either", "|.0|1e.2|3e", 0, 5, 10);
        Ask.hasType("nested", NESTED, 1, 1, 0);
        Ask.hasType("lists", LISTS, 0, 5, 0);
        Ask.hasType("a knot around nothing", "W.0w", 0, 1, 0);
        Counted x = new Counted();
        int term = Check.build(x, ".0|1e");
        Check.fails("part -1", INDEX, () -> x.type(term, -1));
        Check.fails("part 3", INDEX, () -> x.type(term, 3));
        Check.fails("no such term", INDEX, () -> x.type(term + 1, 0));
        Check.fails("no such term below 0", INDEX, () -> x.type(-1, 0));
        int bad = Check.build(x, ".e0");
        for (int part = 0; part < 3; part++) {
            int which = part;
            Check.fails("not typed", STATE, () -> x.type(bad, which));
        }
        Check.fails("no such part of one not typed", INDEX, () -> x.type(bad, 3));
        Check.answers("a part of one not typed", 1, () -> x.type(bad - 1, 1));
        int other = Check.build(x, NESTED);
        Check.fails("a part that is not typed by itself", STATE, () -> x.type(other - 1, 0));
    }

    private static void typeOfPairs() {
        Ask.hasType("a pair", ".01", 0, 1, 0);
        Ask.hasType("a pair with a nullable end", ".0|1e", 0, 1, 2);
        Ask.hasType("a pair with EMPTY", ".0e", 0, 1, 0);
        Ask.hasType("after of the first part goes through", "..0|1e|2e", 0, 1, 6);
        Ask.hasType("after of the first part stops", "..0|1e2", 0, 1, 0);
        Ask.hasType("after of the second part", ".0.1|2e", 0, 1, 4);
        Ask.hasType("after of the second part, nullable", ".0|.1|2ee", 0, 1, 6);
        Ask.hasType("a first part without words", ".n|1e", 0, 0, 2);
        Ask.hasType("after by a variable", "W.0|.1we", 0, 1, 2);
        Ask.hasType("after by a variable at the end", "W|.0wX|.1x|.2we", 1, 7, 7);
    }

    private static void put() {
        Counted x = new Counted();
        Check.holds("put(-1)", !x.put(-1));
        Check.holds("put(8)", !x.put(8));
        Check.answers("length after wrong letters", 0, x::length);
        for (int i = 0; i < 40; i++) {
            int at = i;
            Check.holds("put " + i, x.put(i % 8));
            Check.answers("length " + i, i + 1, x::length);
            Check.answers("letter " + i, i % 8, () -> x.letter(at));
        }
        Check.holds("put 41", !x.put(0));
        Check.holds("put of no letter, full", !x.put(8));
        Check.answers("length when full", 40, x::length);
        Check.answers("last letter when full", 7, () -> x.letter(39));
        x.cut(39);
        Check.holds("put again", x.put(1));
        Check.answers("last letter put again", 1, () -> x.letter(39));
    }

    private static void cut() {
        Counted x = new Counted();
        Check.holds("cut(0) of nothing", x.cut(0));
        Check.holds("cut(1) of nothing", !x.cut(1));
        Check.spell(x, "0123");
        Check.holds("cut(-1)", !x.cut(-1));
        Check.holds("cut(5)", !x.cut(5));
        Check.same("nothing cut", "0123", Check.word(x));
        Check.holds("cut(4)", x.cut(4));
        Check.same("all kept", "0123", Check.word(x));
        Check.holds("cut(2)", x.cut(2));
        Check.same("two kept", "01", Check.word(x));
        Check.holds("cut(3) then", !x.cut(3));
        Check.same("two still", "01", Check.word(x));
        Check.holds("cut(least)", !x.cut(Integer.MIN_VALUE));
        Check.holds("cut(0)", x.cut(0));
        Check.answers("length then", 0, x::length);
    }

    private static void letter() {
        Counted x = new Counted();
        Check.spell(x, "70");
        Check.answers("length", 2, x::length);
        Check.answers("letter(0)", 7, () -> x.letter(0));
        Check.answers("letter(1)", 0, () -> x.letter(1));
        Check.fails("letter(2)", INDEX, () -> x.letter(2));
        Check.fails("letter(-1)", INDEX, () -> x.letter(-1));
        x.cut(1);
        Check.answers("length, cut", 1, x::length);
        Check.fails("a letter that was cut", INDEX, () -> x.letter(1));
        Check.fails("letter(40)", INDEX, () -> x.letter(40));
    }

    private static void read() {
        Ask.reads("EMPTY", "e", "", 1, "");
        Ask.reads("a letter", "5", "5", 1, "");
        Ask.reads("a pair", ".56", "56", 3, "");
        Ask.reads("a knot", "W5", "5", 2, "");
        Ask.reads("no letters by nested", NESTED, "", 3, "1");
        Ask.reads("nested", NESTED, "0011", 17, "001");
        Ask.reads("a row", "W|.0w1", "0001", 3 * 5 + 3, "0001");
        Ask.reads("an empty list", LISTS, "213", 9, "10");
        Ask.reads("a list of one", LISTS, "2013", 17, "1100");
        Counted x = new Counted();
        int term = Check.build(x, "..|01|23|45");
        Check.spell(x, "035");
        Check.answers("a part by itself", 5, () -> x.cut(2) ? x.read(term - 4) : -1);
        Check.same("trace of a part", "01", Check.trace(x));
        Check.same("the word stays", "03", Check.word(x));
    }

    private static void readEithers() {
        Ask.reads("by the part with the letter, not the nullable one", "|e1", "1", 2, "1");
        Ask.reads("by the nullable part at the end", "|1e", "", 2, "1");
        Ask.reads("by the first part, nullable", "|e1", "", 2, "0");
        Ask.reads("by the nullable part before another letter", "..0|1e2", "02", 6, "1");
        Ask.reads("not by the nullable part", "..0|1e2", "012", 6, "0");
        Ask.reads("eithers in order", "||01|23", "2", 3, "10");
        Ask.reads("a nullable part with letters of its own", ".0||1e2", "0", 5, "01");
    }

    private static void readStops() {
        Ask.stops("NONE", "n", "", 0);
        Ask.stops("NONE before a letter", "n", "0", 0);
        Ask.stops("NONE behind a letter", ".0n", "00", 1);
        Ask.stops("no letter", "0", "", 0);
        Ask.stops("another letter", "0", "1", 0);
        Ask.stops("a letter left", "0", "00", 1);
        Ask.stops("letters left", "e", "000", 0);
        Ask.stops("an either without the letter", "|01", "2", 0);
        Ask.stops("an either at the end", "|01", "", 0);
        Ask.stops("an either inside", ".0|12", "00", 1);
        Ask.stops("too few", NESTED, "001", 3);
        Ask.stops("too many", NESTED, "011", 2);
        Ask.stops("no letter there", NESTED, "02", 1);
        Ask.stops("all wrong", NESTED, "1", 0);
        Ask.stops("behind a nullable part", "..0|1e2", "03", 1);
        Ask.stops("behind a nullable part that was read", "..0|1e2", "011", 2);
    }

    private static void readThrows() {
        Counted x = new Counted();
        Check.fails("read of no term", INDEX, () -> x.read(0));
        Check.fails("read(-1)", INDEX, () -> x.read(-1));
        int bad = Check.build(x, "|00");
        Check.fails("read of one not typed", STATE, () -> x.read(bad));
        x.put(0);
        Check.fails("read by one not typed that has the word", STATE, () -> x.read(bad));
        Check.answers("read by its part", 1, () -> x.read(bad - 1));
        Check.fails("read of the next term", INDEX, () -> x.read(bad + 1));
        Check.same("the word stays", "0", Check.word(x));
    }

    private static void stopped() {
        Counted x = new Counted();
        int nested = Check.build(x, NESTED);
        int bad = Check.build(x, "|00");
        Check.spell(x, "001");
        Check.fails("read", ARGUMENT, () -> x.read(nested));
        Check.answers("stopped", 3, x::stopped);
        Check.fails("read of no term", INDEX, () -> x.read(48));
        Check.answers("stopped stays over no term", 3, x::stopped);
        Check.fails("read of one not typed", STATE, () -> x.read(bad));
        Check.answers("stopped stays over one not typed", 3, x::stopped);
        x.cut(0);
        x.find(nested, 2, 0);
        Check.answers("stopped stays over find and cut", 3, x::stopped);
        Check.answers("read then", 10, () -> x.read(nested));
        Check.answers("stopped no more", -1, x::stopped);
        Check.fails("read of one not typed again", STATE, () -> x.read(bad));
        Check.answers("stopped no more, still", -1, x::stopped);
        Check.spell(x, "1");
        Check.fails("read of another word", ARGUMENT, () -> x.read(nested));
        Check.answers("stopped at once", 0, x::stopped);
        x.clear();
        Check.answers("stopped stays over clear", 0, x::stopped);
    }

    private static void trace() {
        Counted x = new Counted();
        int nested = Check.build(x, NESTED);
        Check.spell(x, "0011");
        x.read(nested);
        Check.answers("trace", 3, x::trace);
        Check.answers("step 0", 0, () -> x.step(0));
        Check.answers("step 2", 1, () -> x.step(2));
        Check.fails("step 3", INDEX, () -> x.step(3));
        Check.fails("step -1", INDEX, () -> x.step(-1));
        Check.spell(x, "0001");
        Check.fails("read", ARGUMENT, () -> x.read(nested));
        Check.same("the trace stays", "001", Check.trace(x));
        Check.fails("read of no term", INDEX, () -> x.read(nested + 1));
        x.clear();
        x.find(x.leaf(7), 1, 0);
        Check.same("the trace stays over clear and find", "001", Check.trace(x));
        Check.answers("read without steps", 1, () -> x.read(0));
        Check.answers("no steps", 0, x::trace);
        Check.fails("step 0 of none", INDEX, () -> x.step(0));
        int row = Check.build(x, "W|1.0w");
        Check.spell(x, "0".repeat(39) + "1");
        Check.answers("a long row", 39 * 5 + 3, () -> x.read(row));
        Check.same("a long trace", "1".repeat(39) + "0", Check.trace(x));
        Check.spell(x, "1");
        x.read(row);
        Check.same("a short trace", "0", Check.trace(x));
    }

    private static void count() {
        Ask.counts("EMPTY", "e", 1, 0, 0);
        Ask.counts("NONE", "n", 0, 0, 0);
        Ask.counts("a letter", "4", 0, 1, 0);
        Ask.counts("nested", NESTED, 1, 0, 1, 0, 1, 0, 1, 0, 1, 0, 1, 0, 1, 0, 1, 0, 1);
        Ask.counts("brackets", "W|..0w.1we", 1, 0, 1, 0, 2, 0, 5, 0, 14, 0, 42, 0, 132, 0, 429, 0, 1430);
        Ask.counts("a knot without an end", "W.0w", 0, 0, 0, 0);
        Ask.counts("a variable in a first part", "W|.0.w12", 0, 1, 0, 1, 0, 1);
        Ask.counts("two knots", "W|2.0X|3.1w", 0, 1, 1, 1, 1, 1);
        String any = "W|e.|||01|23||45|67w";
        Counted x = new Counted();
        int all = Check.build(x, any);
        for (int n = 0; n <= 16; n++) {
            int length = n;
            Check.answers("all words of " + n, 1L << (3 * n), () -> x.count(all, length));
        }
        Check.answers("counted down again", 8, () -> x.count(all, 1));
        int other = Check.build(x, "..3|4e5");
        Check.answers("another term then", 1, () -> x.count(other, 3));
        Check.answers("and shorter", 1, () -> x.count(other, 2));
        Check.answers("and longer", 0, () -> x.count(other, 4));
        Check.answers("its part", 1, () -> x.count(1, 1));
    }

    private static void countThrows() {
        Counted x = new Counted();
        Check.fails("count of no term", INDEX, () -> x.count(0, 0));
        Check.fails("count of no term, and no length", INDEX, () -> x.count(-1, 17));
        int bad = Check.build(x, "|00");
        Check.fails("count of one not typed", STATE, () -> x.count(bad, 1));
        Check.fails("count of one not typed, and no length", STATE, () -> x.count(bad, 17));
        Check.fails("count of -1", ARGUMENT, () -> x.count(0, -1));
        Check.fails("count of 17", ARGUMENT, () -> x.count(0, 17));
        Check.fails("count of many", ARGUMENT, () -> x.count(0, Integer.MAX_VALUE));
        Check.answers("count of 16", 0, () -> x.count(0, 16));
    }

    private static void find() {
        Ask.finds("EMPTY", "e", 0, "");
        Ask.finds("a letter", "6", 1, "6");
        Ask.finds("an either out of order", "||20|31", 1, "0", "1", "2", "3");
        Ask.finds("first letters out of order", "|.20.13", 2, "13", "20");
        Ask.finds("pairs", ".|10|32", 2, "02", "03", "12", "13");
        Ask.finds("first parts of two lengths", ".|0.12|.453", 3, "045", "123");
        Ask.finds("second parts of two lengths", "..0|1e|2.33", 3, "012", "033");
        Ask.finds("brackets", "W|..0w.1we", 6, "000111", "001011", "001101", "010011", "010101");
        Ask.finds("lists", LISTS, 6, "200013", "221313");
        Counted x = new Counted();
        int all = Check.build(x, "W|e.|||01|23||45|67w");
        x.find(all, 16, (1L << 48) - 1);
        Check.same("the last of all words", "7777777777777777", Check.word(x));
        x.find(all, 16, 01234567L);
        Check.same("a word of all words", "0000000001234567", Check.word(x));
        x.find(all, 3, 0123);
        Check.same("a shorter word", "123", Check.word(x));
        Check.fails("letters that are gone", INDEX, () -> x.letter(3));
        Check.spell(x, "0".repeat(40));
        x.find(all, 0, 0);
        Check.answers("a word without letters", 0, x::length);
        Check.answers("no trace by find", 0, x::trace);
    }

    private static void findThrows() {
        Counted x = new Counted();
        Check.refuses("find in no term", INDEX, () -> x.find(0, 17, -1));
        int bad = Check.build(x, "|00");
        Check.spell(x, "123");
        Check.refuses("find in one not typed", STATE, () -> x.find(bad, 17, -1));
        Check.refuses("find of length 17", ARGUMENT, () -> x.find(0, 17, -1));
        Check.refuses("find of length -1", ARGUMENT, () -> x.find(0, -1, 0));
        Check.refuses("find of number -1", ELEMENT, () -> x.find(0, 1, -1));
        Check.refuses("find of number 1", ELEMENT, () -> x.find(0, 1, 1));
        Check.refuses("find of the most", ELEMENT, () -> x.find(0, 1, Long.MAX_VALUE));
        Check.refuses("find of the least", ELEMENT, () -> x.find(0, 1, Long.MIN_VALUE));
        Check.refuses("find of a number over int", ELEMENT, () -> x.find(0, 1, 1L << 32));
        Check.refuses("find where no words are", ELEMENT, () -> x.find(0, 2, 0));
        Check.same("the word stays", "123", Check.word(x));
        x.find(0, 1, 0);
        Check.same("the word then", "0", Check.word(x));
    }
}
