import java.util.ArrayList;
import java.util.HashSet;
import java.util.List;
import java.util.NoSuchElementException;
import java.util.Set;
import java.util.SortedSet;

/** Runs of 512 calls with arguments of all sorts, each answer held against what a plain state says. */
public final class RunsTest {
    private static final int RUNS = 3000;
    // A step makes this many calls at most.
    private static final int STEP = 16;
    private static final int MOST_LETTERS_IN_SETS = 5;

    // Typed terms, more of them than chance would put together; read from the left to the right.
    private static final String[] SAMPLES = {"W|..0w1e", "W|0.2.X|1.wx3", "W|..0w.1we", "Y|1.0y", "|01", ".0|1e",
        "W|e.||012w", "Z|.0.z12", ".|0.12|.453", "X|.0xW|.1w2", "..0|1e|2e", "WX|.0w|.1xe"};

    private long seed = 19;
    private Counted x;
    private List<Model.Term> terms;
    private Set<Model.Term> parts;
    private String word;
    private String trace;
    private int stopped;
    private int reads = 0;

    public static void main(String[] args) {
        RunsTest test = new RunsTest();
        for (int run = 0; run < RUNS; run++) {
            test.oneRun();
        }
        System.out.println(test.reads + " words read");
        Check.holds("enough words were read", test.reads > 5000);
        Check.end();
    }

    private int draw(int below) {
        seed = seed * 6364136223846793005L + 1442695040888963407L;
        return (int) ((seed >>> 33) % below);
    }

    private void oneRun() {
        x = new Counted();
        terms = new ArrayList<>();
        parts = new HashSet<>();
        word = "";
        trace = "";
        stopped = -1;
        while (x.left() >= STEP) {
            oneStep();
        }
        while (x.left() > 0) {
            Check.answers("terms", terms.size(), x::terms);
        }
    }

    private void oneStep() {
        int kind = draw(200);
        if (kind < 5) {
            x.clear();
            terms.clear();
            parts.clear();
        } else if (kind < 14) {
            sample(SAMPLES[draw(SAMPLES.length)], new int[1]);
        } else if (kind < 25) {
            leaf(odd(draw(11) - 3));
        } else if (kind < 35) {
            variable(odd(draw(2)));
        } else if (kind < 75) {
            join(anyTerm(), anyTerm(), draw(2) == 0);
        } else if (kind < 90) {
            knot(odd(draw(2)), anyTerm());
        } else if (kind < 120) {
            put(odd(draw(4)));
        } else if (kind < 128) {
            cut(odd(draw(word.length() + 2)));
        } else if (kind < 160) {
            read(likelyTyped());
        } else if (kind < 170) {
            findAndRead(likelyTyped(), odd(draw(6)));
        } else if (kind < 178) {
            count(likelyTyped(), odd(draw(6)));
        } else {
            look();
        }
    }

    /** Puts a sample together; its latest term's number, or -1 where there was no room. */
    private int sample(String text, int[] at) {
        char sign = text.charAt(at[0]++);
        if (sign == '.' || sign == '|') {
            int a = sample(text, at);
            int b = sample(text, at);
            join(a, b, sign == '|');
        } else if (sign >= 'W' && sign <= 'Z') {
            knot(sign - 'W', sample(text, at));
        } else if (sign >= 'w' && sign <= 'z') {
            variable(sign - 'w');
        } else {
            leaf(sign == 'e' ? -1 : sign - '0');
        }
        return terms.size() - 1;
    }

    /** Mostly a number, at times another that is far from it. */
    private int odd(int number) {
        int[] others = {-1, Integer.MIN_VALUE, Integer.MAX_VALUE, 17, 48, -2, 1 << 16};
        return draw(30) == 0 ? others[draw(others.length)] : number;
    }

    private int anyTerm() {
        int latest = draw(1 + Math.min(terms.size(), 4));
        return odd(draw(3) == 0 ? draw(terms.size() + 1) : terms.size() - latest);
    }

    private int likelyTyped() {
        int term = anyTerm();
        for (int i = draw(8); i > 0 && refusal(term) != null; i--) {
            term = anyTerm();
        }
        return term;
    }

    private boolean has(int term) {
        return term >= 0 && term < terms.size();
    }

    private static int knots(Model.Term t) {
        return t == null ? 0 : Math.max(knots(t.a), knots(t.b)) + (t.isKnot() ? 1 : 0);
    }

    /** An answer, or the exception that the first of some reasons calls for. */
    private void due(String what, Class<? extends RuntimeException> thrown, long answer, Check.Call call) {
        if (thrown == null) {
            Check.answers(what, answer, call);
        } else {
            Check.fails(what, thrown, call);
        }
    }

    private void add(char sign, Model.Term a, Model.Term b) {
        terms.add(new Model.Term(terms.size(), sign, a, b));
        if (a != null) {
            parts.add(a);
        }
        if (b != null) {
            parts.add(b);
        }
    }

    private void leaf(int what) {
        Class<? extends RuntimeException> thrown = what < -2 || what > 7 ? IllegalArgumentException.class
                : terms.size() == 48 ? UnsupportedOperationException.class : null;
        due("leaf", thrown, terms.size(), () -> x.leaf(what));
        if (thrown == null) {
            add(what == -1 ? 'e' : what == -2 ? 'n' : (char) ('0' + what), null, null);
        }
    }

    private void variable(int v) {
        Class<? extends RuntimeException> thrown = v < 0 || v > 3 ? IllegalArgumentException.class
                : terms.size() == 48 ? UnsupportedOperationException.class : null;
        due("variable", thrown, terms.size(), () -> x.variable(v));
        if (thrown == null) {
            add((char) ('w' + v), null, null);
        }
    }

    private void join(int a, int b, boolean either) {
        Class<? extends RuntimeException> thrown = null;
        if (!has(a) || !has(b)) {
            thrown = IndexOutOfBoundsException.class;
        } else if (a == b || parts.contains(terms.get(a)) || parts.contains(terms.get(b))) {
            thrown = IllegalStateException.class;
        } else if (terms.size() == 48) {
            thrown = UnsupportedOperationException.class;
        }
        due("join", thrown, terms.size(), () -> x.join(a, b, either));
        if (thrown == null) {
            add(either ? '|' : '.', terms.get(a), terms.get(b));
        }
    }

    private void knot(int v, int a) {
        Class<? extends RuntimeException> thrown = null;
        if (!has(a)) {
            thrown = IndexOutOfBoundsException.class;
        } else if (parts.contains(terms.get(a))) {
            thrown = IllegalStateException.class;
        } else if (v < 0 || v > 3) {
            thrown = IllegalArgumentException.class;
        } else if (terms.size() == 48 || knots(terms.get(a)) == 3) {
            thrown = UnsupportedOperationException.class;
        }
        due("knot", thrown, terms.size(), () -> x.knot(v, a));
        if (thrown == null) {
            add((char) ('W' + v), terms.get(a), null);
        }
    }

    private void put(int letter) {
        boolean can = letter >= 0 && letter < 8 && word.length() < 40;
        Check.answers("put", can ? 1 : 0, () -> x.put(letter) ? 1 : 0);
        word = can ? word + letter : word;
    }

    private void cut(int n) {
        boolean can = n >= 0 && n <= word.length();
        Check.answers("cut", can ? 1 : 0, () -> x.cut(n) ? 1 : 0);
        word = can ? word.substring(0, n) : word;
    }

    /** Why a call on a typed term throws; null if it does not. */
    private Class<? extends RuntimeException> refusal(int term) {
        if (!has(term)) {
            return IndexOutOfBoundsException.class;
        }
        return new Model(terms.get(term)).fault != 0 ? IllegalStateException.class : null;
    }

    private void read(int term) {
        Class<? extends RuntimeException> thrown = refusal(term);
        if (thrown != null) {
            due("read", thrown, 0, () -> x.read(term));
            return;
        }
        Model model = new Model(terms.get(term));
        stopped = model.read(word);
        due("read", stopped < 0 ? null : IllegalArgumentException.class, model.visits, () -> x.read(term));
        if (stopped < 0) {
            reads++;
            trace = model.trace.toString();
        }
    }

    private List<String> words(int term, int n) {
        SortedSet<String> all = new Model(terms.get(term)).words(n);
        return all.stream().filter(text -> text.length() == n).toList();
    }

    private void count(int term, int n) {
        Class<? extends RuntimeException> thrown = refusal(term);
        if (thrown == null && (n < 0 || n > 16)) {
            thrown = IllegalArgumentException.class;
        }
        if (thrown != null) {
            due("count", thrown, 0, () -> x.count(term, n));
        } else if (n <= MOST_LETTERS_IN_SETS) {
            Check.answers("count", words(term, n).size(), () -> x.count(term, n));
        }
    }

    private void find(int term, int n, long number) {
        Class<? extends RuntimeException> thrown = refusal(term);
        if (thrown == null && (n < 0 || n > 16)) {
            thrown = IllegalArgumentException.class;
        }
        if (thrown == null && n > MOST_LETTERS_IN_SETS) {
            return;
        }
        List<String> words = thrown == null ? words(term, n) : List.of();
        if (thrown == null && (number < 0 || number >= words.size())) {
            thrown = NoSuchElementException.class;
        }
        due("find", thrown, 0, () -> {
            x.find(term, n, number);
            return 0;
        });
        word = thrown == null ? words.get((int) number) : word;
    }

    private void findAndRead(int term, int n) {
        int words = refusal(term) == null && n >= 0 && n <= MOST_LETTERS_IN_SETS ? words(term, n).size() : 0;
        find(term, n, odd(draw(words + 2) - draw(2)));
        if (draw(3) > 0) {
            read(term);
        }
    }

    private static int partOf(Model.Type type, int part) {
        if (type == null) {
            return 0;
        }
        return part == 0 ? (type.nullable ? 1 : 0) : part == 1 ? type.first : type.after;
    }

    private void look() {
        int term = anyTerm();
        int part = odd(draw(3));
        int i = odd(draw(6));
        due("fault", has(term) ? null : IndexOutOfBoundsException.class,
                has(term) ? new Model(terms.get(term)).fault : 0, () -> x.fault(term));
        Class<? extends RuntimeException> thrown = part < 0 || part > 2
                ? IndexOutOfBoundsException.class : refusal(term);
        Model.Type type = thrown == null ? new Model(terms.get(term)).type() : null;
        due("type", thrown, partOf(type, part),
                () -> x.type(term, part));
        Check.answers("length", word.length(), x::length);
        boolean inWord = i >= 0 && i < word.length();
        due("letter", inWord ? null : IndexOutOfBoundsException.class, inWord ? word.charAt(i) - '0' : 0,
                () -> x.letter(i));
        boolean inTrace = i >= 0 && i < trace.length();
        due("step", inTrace ? null : IndexOutOfBoundsException.class, inTrace ? trace.charAt(i) - '0' : 0,
                () -> x.step(i));
        Check.answers("trace", trace.length(), x::trace);
        Check.answers("stopped", stopped, x::stopped);
        Check.answers("terms", terms.size(), x::terms);
    }
}
