import java.util.HashMap;
import java.util.Map;
import java.util.SortedSet;
import java.util.TreeSet;

/**
 * The document's words about terms, written down a second time, as slowly and plainly as they
 * stand there: sets of words, types by one least set inside another, reading by calls in calls.
 */
final class Model {
    /** A term: the sign that Check.build has for its kind, and its parts. */
    static final class Term {
        final int number;
        final char sign;
        final Term a;
        final Term b;

        Term(int number, char sign, Term a, Term b) {
            this.number = number;
            this.sign = sign;
            this.a = a;
            this.b = b;
        }

        boolean isVariable() {
            return sign >= 'w' && sign <= 'z';
        }

        boolean isKnot() {
            return sign >= 'W' && sign <= 'Z';
        }

        boolean isLetter() {
            return sign >= '0' && sign <= '7';
        }
    }

    /** A type. */
    static final class Type {
        final boolean nullable;
        final int first;
        final int after;

        Type(boolean nullable, int first, int after) {
            this.nullable = nullable;
            this.first = first;
            this.after = after;
        }

        boolean same(Type other) {
            return nullable == other.nullable && first == other.first && after == other.after;
        }
    }

    /** Where a word could not be read. */
    static final class Stop extends RuntimeException {
        private static final long serialVersionUID = 1L;
        final int place;

        Stop(int place) {
            super(null, null, false, false);
            this.place = place;
        }
    }

    private static final Type LEAST = new Type(false, 0, 0);

    private final Term root;
    private final Map<Term, Type> types = new HashMap<>();
    private final Map<Term, Term> binders = new HashMap<>();
    final int fault;

    private String word = "";
    private int place = 0;
    int visits = 0;
    StringBuilder trace = new StringBuilder();

    Model(Term root) {
        this.root = root;
        noteTypes(root, new Type[4], new Term[4]);
        fault = faultIn(root, new boolean[4], new boolean[4]);
    }

    Type type() {
        return types.get(root);
    }

    private static Type typeOf(Term t, Type[] env) {
        if (t.isVariable()) {
            Type known = env[t.sign - 'w'];
            return known == null ? LEAST : known;
        }
        if (t.isKnot()) {
            return knotType(t, env);
        }
        if (t.isLetter()) {
            return new Type(false, 1 << (t.sign - '0'), 0);
        }
        if (t.sign == 'e' || t.sign == 'n') {
            return new Type(t.sign == 'e', 0, 0);
        }
        Type a = typeOf(t.a, env);
        Type b = typeOf(t.b, env);
        if (t.sign == '|') {
            return new Type(a.nullable || b.nullable, a.first | b.first, a.after | b.after);
        }
        int first = a.nullable ? a.first | b.first : a.first;
        int after = b.nullable ? b.after | b.first | a.after : b.after;
        return new Type(a.nullable && b.nullable, first, after);
    }

    private static Type knotType(Term t, Type[] env) {
        Type[] inner = env.clone();
        Type type = LEAST;
        while (true) {
            inner[t.sign - 'W'] = type;
            Type next = typeOf(t.a, inner);
            if (next.same(type)) {
                return type;
            }
            type = next;
        }
    }

    private void noteTypes(Term t, Type[] env, Term[] scope) {
        types.put(t, typeOf(t, env));
        if (t.isVariable()) {
            binders.put(t, scope[t.sign - 'w']);
        }
        Type[] innerEnv = env;
        Term[] innerScope = scope;
        if (t.isKnot()) {
            innerEnv = env.clone();
            innerScope = scope.clone();
            innerEnv[t.sign - 'W'] = types.get(t);
            innerScope[t.sign - 'W'] = t;
        }
        if (t.a != null) {
            noteTypes(t.a, innerEnv, innerScope);
        }
        if (t.b != null) {
            noteTypes(t.b, innerEnv, innerScope);
        }
    }

    private int faultIn(Term t, boolean[] bound, boolean[] guarded) {
        boolean[] boundInside = bound.clone();
        boolean[] guardedInside = guarded.clone();
        if (t.isKnot()) {
            boundInside[t.sign - 'W'] = true;
            guardedInside[t.sign - 'W'] = false;
        }
        int found = t.a == null ? 0 : faultIn(t.a, boundInside, guardedInside);
        if (found == 0 && t.b != null) {
            if (t.sign == '.') {
                guardedInside = new boolean[] {true, true, true, true};
            }
            found = faultIn(t.b, boundInside, guardedInside);
        }
        return found != 0 ? found : ownFault(t, bound, guarded);
    }

    private int ownFault(Term t, boolean[] bound, boolean[] guarded) {
        int kind = 0;
        if (t.isVariable() && !bound[t.sign - 'w']) {
            kind = 1;
        } else if (t.isVariable() && !guarded[t.sign - 'w']) {
            kind = 2;
        } else if (t.sign == '.') {
            Type a = types.get(t.a);
            Type b = types.get(t.b);
            kind = a.nullable || (a.after & b.first) != 0 ? 3 : 0;
        } else if (t.sign == '|') {
            Type a = types.get(t.a);
            Type b = types.get(t.b);
            kind = (a.nullable && b.nullable) || (a.first & b.first) != 0 ? 4 : 0;
        }
        return kind == 0 ? 0 : 8 * t.number + kind;
    }

    /** All words of the root of at most so many letters, in order. */
    SortedSet<String> words(int most) {
        return wordsOf(root, new HashMap<>(), most);
    }

    private SortedSet<String> wordsOf(Term t, Map<Term, SortedSet<String>> env, int most) {
        SortedSet<String> all = new TreeSet<>();
        if (t.sign == 'e') {
            all.add("");
        } else if (t.isLetter()) {
            if (most >= 1) {
                all.add("" + t.sign);
            }
        } else if (t.isVariable()) {
            all.addAll(env.get(binders.get(t)));
        } else if (t.isKnot()) {
            all = wordsOfKnot(t, env, most);
        } else if (t.sign == '|') {
            all.addAll(wordsOf(t.a, env, most));
            all.addAll(wordsOf(t.b, env, most));
        } else if (t.sign == '.') {
            SortedSet<String> ends = wordsOf(t.b, env, most);
            for (String begin : wordsOf(t.a, env, most)) {
                for (String end : ends) {
                    if (begin.length() + end.length() <= most) {
                        all.add(begin + end);
                    }
                }
            }
        }
        return all;
    }

    private SortedSet<String> wordsOfKnot(Term t, Map<Term, SortedSet<String>> env, int most) {
        Map<Term, SortedSet<String>> inner = new HashMap<>(env);
        SortedSet<String> known = new TreeSet<>();
        while (true) {
            inner.put(t, known);
            SortedSet<String> next = wordsOf(t.a, inner, most);
            if (next.equals(known)) {
                return known;
            }
            known = next;
        }
    }

    /** Reads a word by the root; the place where it could not be, or -1. */
    int read(String letters) {
        word = letters;
        place = 0;
        visits = 0;
        trace = new StringBuilder();
        try {
            readBy(root);
        } catch (Stop stop) {
            return stop.place;
        }
        return place == word.length() ? -1 : place;
    }

    private void readBy(Term t) {
        visits++;
        if (t.isLetter()) {
            if (place == word.length() || word.charAt(place) != t.sign) {
                throw new Stop(place);
            }
            place++;
        } else if (t.sign == 'n') {
            throw new Stop(place);
        } else if (t.sign == '.') {
            readBy(t.a);
            readBy(t.b);
        } else if (t.sign == '|') {
            int side = side(types.get(t.a), types.get(t.b));
            trace.append(side);
            readBy(side == 0 ? t.a : t.b);
        } else if (t.isKnot()) {
            readBy(t.a);
        } else if (t.isVariable()) {
            readBy(binders.get(t));
        }
    }

    private int side(Type a, Type b) {
        int next = place == word.length() ? 0 : 1 << (word.charAt(place) - '0');
        if ((a.first & next) != 0) {
            return 0;
        }
        if ((b.first & next) != 0) {
            return 1;
        }
        if (!a.nullable && !b.nullable) {
            throw new Stop(place);
        }
        return a.nullable ? 0 : 1;
    }
}
