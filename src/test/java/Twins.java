import java.util.function.Predicate;
import java.util.function.ToLongFunction;

/**
 * Two objects are made alike, and one of them is called in vain: nothing may tell them apart then.
 * They are asked in several ways, each time anew, so that no object is called more than 512 times.
 */
final class Twins {
    private static final int WAYS = 5;

    /** What is done with an object. */
    interface Deed {
        void go(Counted x);
    }

    private Twins() {
    }

    /** A call that throws, and changes nothing. */
    static void refuses(String what, Class<? extends RuntimeException> due, Deed made, Deed call) {
        alike(what, made, x -> {
            made.go(x);
            Check.refuses(what, due, () -> call.go(x));
        });
    }

    /** A read() that throws an IllegalArgumentException: it changes stopped(), and nothing else. */
    static void refusesWord(String what, int place, Deed made, int term) {
        compare(what, made, x -> {
            made.go(x);
            Check.fails(what, IllegalArgumentException.class, () -> x.read(term));
            Check.answers("stopped: " + what, place, x::stopped);
        });
    }

    /** A call that answers false, and changes nothing. */
    static void denies(String what, Deed made, Predicate<Counted> call) {
        alike(what, made, x -> {
            made.go(x);
            Check.holds(what, !call.test(x));
        });
    }

    /** A call that answers, and changes nothing. */
    static void asks(String what, long answer, Deed made, ToLongFunction<Counted> call) {
        alike(what, made, x -> {
            made.go(x);
            Check.answers(what, answer, () -> call.applyAsLong(x));
        });
    }

    /** Two objects that were made in two ways, and are told apart by nothing. */
    static void alike(String what, Deed made, Deed madeOtherwise) {
        Counted one = new Counted();
        made.go(one);
        Counted other = new Counted();
        madeOtherwise.go(other);
        Check.answers("stopped after " + what, one.stopped(), other::stopped);
        compare(what, made, madeOtherwise);
    }

    /** The same, but for stopped(). */
    private static void compare(String what, Deed made, Deed madeOtherwise) {
        for (int way = 0; way < WAYS; way++) {
            Counted one = new Counted();
            made.go(one);
            Counted other = new Counted();
            madeOtherwise.go(other);
            Check.same("all told after " + what, portrait(one, way), portrait(other, way));
        }
    }

    private static String portrait(Counted x, int way) {
        StringBuilder text = new StringBuilder();
        text.append(x.terms()).append(' ').append(Check.word(x)).append(' ').append(Check.trace(x));
        int terms = x.terms();
        for (int term = 0; term < terms; term++) {
            text.append('\n').append(term);
            ask(x, term, way, text);
        }
        for (int i = 0; way == 0 && i < 49; i++) {
            note(text, () -> x.leaf(0));
        }
        return text.toString();
    }

    private static void ask(Counted x, int term, int way, StringBuilder text) {
        switch (way) {
            case 0:
                // Whether it is a part, and how many knots lie in it.
                note(text, () -> x.knot(4, term));
                note(text, () -> x.knot(0, x.knot(1, term)));
                break;
            case 1:
                note(text, () -> x.fault(term));
                for (int part = 0; part < 3; part++) {
                    int which = part;
                    note(text, () -> x.type(term, which));
                }
                break;
            case 2:
                for (int n = 0; n < 5; n++) {
                    int length = n;
                    note(text, () -> x.count(term, length));
                }
                break;
            case 3:
                note(text, () -> x.read(term));
                text.append(x.trace());
                break;
            default:
                noteWord(text, x, term, 0);
                noteWord(text, x, term, 2);
                break;
        }
    }

    private static void noteWord(StringBuilder text, Counted x, int term, int n) {
        note(text, () -> {
            x.find(term, n, 0);
            text.append(Check.word(x));
            return 0;
        });
    }

    private static void note(StringBuilder text, Check.Call call) {
        text.append(' ');
        try {
            text.append(call.go());
        } catch (RuntimeException e) {
            text.append(e.getClass().getName());
        }
    }
}
