import java.util.NoSuchElementException;

/** What a term that is put together from a text (as Check.build takes it) has to answer. */
final class Ask {
    static final Class<IndexOutOfBoundsException> INDEX = IndexOutOfBoundsException.class;
    static final Class<IllegalStateException> STATE = IllegalStateException.class;
    static final Class<IllegalArgumentException> ARGUMENT = IllegalArgumentException.class;
    static final Class<UnsupportedOperationException> ROOM = UnsupportedOperationException.class;
    static final Class<NoSuchElementException> ELEMENT = NoSuchElementException.class;

    private Ask() {
    }

    static void fill(Counted x) {
        fillTo(x, 48);
    }

    static void fillTo(Counted x, int terms) {
        for (int i = x.terms(); i < terms; i++) {
            x.leaf(-1);
        }
    }

    /** The fault of what a text puts together: its kind, and the term where it is; 0 for none. */
    static void hasFault(String what, int kind, int term, String text) {
        Counted x = new Counted();
        int root = Check.build(x, text);
        Check.answers(what + " " + text, kind == 0 ? 0 : 8 * term + kind, () -> x.fault(root));
    }

    static void isTyped(String what, String text) {
        hasFault(what, 0, -1, text);
    }

    static void hasType(String what, String text, int nullable, int first, int after) {
        Counted x = new Counted();
        int root = Check.build(x, text);
        Check.answers("whether nullable: " + what + " " + text, nullable, () -> x.type(root, 0));
        Check.answers("first: " + what + " " + text, first, () -> x.type(root, 1));
        Check.answers("after: " + what + " " + text, after, () -> x.type(root, 2));
    }

    static void reads(String what, String text, String word, int visits, String trace) {
        Counted x = new Counted();
        int root = Check.build(x, text);
        Check.spell(x, word);
        Check.answers("visits: " + what + " " + text, visits, () -> x.read(root));
        Check.same("trace: " + what + " " + text, trace, Check.trace(x));
        Check.answers("stopped: " + what + " " + text, -1, x::stopped);
    }

    static void stops(String what, String text, String word, int place) {
        Counted x = new Counted();
        int root = Check.build(x, text);
        Check.spell(x, word);
        Check.fails("read: " + what + " " + text, ARGUMENT, () -> x.read(root));
        Check.answers("stopped: " + what + " " + text, place, x::stopped);
        Check.answers("no trace: " + what + " " + text, 0, x::trace);
    }

    /** How many words there are of 0 letters, of 1, and so on. */
    static void counts(String what, String text, long... due) {
        Counted x = new Counted();
        int root = Check.build(x, text);
        for (int n = 0; n < due.length; n++) {
            int length = n;
            Check.answers("words of " + n + ": " + what + " " + text, due[n], () -> x.count(root, length));
        }
    }

    /** All words of a length, in order. */
    static void finds(String what, String text, int n, String... due) {
        Counted x = new Counted();
        int root = Check.build(x, text);
        String words = "words of " + n + ": " + what + " " + text;
        Check.answers(words, due.length, () -> x.count(root, n));
        for (int number = 0; number < due.length; number++) {
            int which = number;
            Check.answers(words, 0, () -> {
                x.find(root, n, which);
                return 0;
            });
            Check.same(words + ": " + number, due[number], Check.word(x));
        }
        Check.refuses("one more: " + words, ELEMENT, () -> x.find(root, n, due.length));
        Check.refuses("one before: " + words, ELEMENT, () -> x.find(root, n, -1));
    }
}
