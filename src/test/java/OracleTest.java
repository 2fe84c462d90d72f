import java.util.ArrayList;
import java.util.List;
import java.util.NoSuchElementException;
import java.util.SortedSet;

/** Some thousand terms, typed and not, with all their answers held against the plain Model. */
public final class OracleTest {
    private static final int ROUNDS = 6000;
    private static final int MOST_WORDS = 3000;

    private long seed = 20261119;
    private Counted x = new Counted();
    private List<Model.Term> made = new ArrayList<>();
    private int typedTerms = 0;
    private int readWords = 0;

    public static void main(String[] args) {
        OracleTest test = new OracleTest();
        for (int round = 0; round < ROUNDS; round++) {
            test.oneRound();
        }
        System.out.println(test.typedTerms + " typed terms, " + test.readWords + " words read");
        Check.holds("enough terms were typed", test.typedTerms > 5000);
        Check.holds("enough words were read", test.readWords > 5000);
        Check.end();
    }

    // The same numbers each time: a failing round can be run again.
    private int draw(int below) {
        seed = seed * 6364136223846793005L + 1442695040888963407L;
        return (int) ((seed >>> 33) % below);
    }

    private void oneRound() {
        x = new Counted();
        made = new ArrayList<>();
        int size = 3 + draw(30);
        Model.Term last = draw(4) == 0 ? wild(size) : tame(size, "", 255, 3);
        Check.answers("terms", made.size(), x::terms);
        for (Model.Term t : made) {
            compare(t, t == last);
        }
    }

    /** The same terms in a new object, if the old one can't be called so often any more. */
    private void roomFor(int calls) {
        if (x.left() >= calls) {
            return;
        }
        x = new Counted();
        for (Model.Term t : made) {
            if (t.isKnot()) {
                x.knot(t.sign - 'W', t.a.number);
            } else if (t.a != null) {
                x.join(t.a.number, t.b.number, t.sign == '|');
            } else {
                Check.build(x, "" + t.sign);
            }
        }
    }

    /** Any term at all. */
    private Model.Term wild(int size) {
        if (size <= 1) {
            int kind = draw(10);
            return leaf(kind == 0 ? 'e' : kind == 1 ? 'n' : kind < 5 ? pick("wxyz") : pick("01234567"));
        }
        if (draw(4) == 0) {
            Model.Term inner = wild(size - 1);
            return knots(inner) < 3 ? knot(pick("WXYZ"), inner) : inner;
        }
        int left = 1 + draw(size - 1);
        Model.Term a = wild(left);
        Model.Term b = wild(size - left);
        return join(a, b, draw(2) == 0);
    }

    /** A term that is typed, likely: its words begin with letters of a set. */
    private Model.Term tame(int size, String scope, int letters, int knots) {
        int kind = draw(12);
        if (knots > 0 && size > 4 && kind < 4) {
            char v = pick("wxyz");
            return knot((char) (v - 'w' + 'W'),
                    tame(size - 1, scope.replace("" + v, "") + (char) (v - 'w' + 'A'), letters, knots - 1));
        }
        if (size > 3 && kind < 9) {
            int half = draw(8) == 0 ? letters : letters & (draw(255) + 1);
            int left = 1 + draw(size - 1);
            Model.Term a = tame(left, scope, half, knots);
            Model.Term b = tame(size - left, scope, letters & ~half, knots);
            return join(a, b, true);
        }
        String usable = scope.replaceAll("[A-D]", "");
        if (size <= 1 || letters == 0) {
            if (usable.length() > 0 && draw(3) > 0) {
                return leaf(usable.charAt(draw(usable.length())));
            }
            int other = draw(8);
            return leaf(letters == 0 || other == 0 ? pick("een") : oneOf(letters));
        }
        StringBuilder open = new StringBuilder();
        for (char v : scope.toCharArray()) {
            open.append(v >= 'A' && v <= 'D' ? (char) (v - 'A' + 'w') : v);
        }
        Model.Term a = draw(3) > 0 ? leaf(oneOf(letters)) : tame(size / 2, scope, letters, knots);
        Model.Term b = tame(size - 2, open.toString(), draw(3) == 0 ? letters : 255, knots);
        return join(a, b, false);
    }

    private char oneOf(int letters) {
        int letter = draw(8);
        while ((letters & 1 << letter) == 0) {
            letter = (letter + 1) % 8;
        }
        return (char) ('0' + letter);
    }

    private char pick(String signs) {
        return signs.charAt(draw(signs.length()));
    }

    private static int knots(Model.Term t) {
        if (t == null) {
            return 0;
        }
        return Math.max(knots(t.a), knots(t.b)) + (t.isKnot() ? 1 : 0);
    }

    private Model.Term leaf(char sign) {
        Model.Term t = new Model.Term(made.size(), sign, null, null);
        if (made.size() == 48) {
            return made.get(47);
        }
        made.add(t);
        Check.answers("leaf " + sign, t.number, () -> Check.build(x, "" + sign));
        return t;
    }

    private Model.Term knot(char sign, Model.Term a) {
        if (made.size() == 48) {
            return a;
        }
        Model.Term t = new Model.Term(made.size(), sign, a, null);
        made.add(t);
        Check.answers("knot", t.number, () -> x.knot(sign - 'W', a.number));
        return t;
    }

    private Model.Term join(Model.Term a, Model.Term b, boolean either) {
        if (made.size() == 48) {
            return a;
        }
        Model.Term t = new Model.Term(made.size(), either ? '|' : '.', a, b);
        made.add(t);
        Check.answers("join", t.number, () -> x.join(a.number, b.number, either));
        return t;
    }

    private void compare(Model.Term t, boolean whole) {
        Model model = new Model(t);
        roomFor(5);
        Check.answers("fault", model.fault, () -> x.fault(t.number));
        if (model.fault != 0) {
            Check.fails("type", IllegalStateException.class, () -> x.type(t.number, 0));
            Check.fails("read", IllegalStateException.class, () -> x.read(t.number));
            Check.fails("count", IllegalStateException.class, () -> x.count(t.number, 3));
            Check.refuses("find", IllegalStateException.class, () -> x.find(t.number, 3, 0));
            return;
        }
        typedTerms++;
        Check.answers("nullable", model.type().nullable ? 1 : 0, () -> x.type(t.number, 0));
        Check.answers("first", model.type().first, () -> x.type(t.number, 1));
        Check.answers("after", model.type().after, () -> x.type(t.number, 2));
        if (whole || draw(4) == 0) {
            compareWords(t, model);
        }
    }

    private void compareWords(Model.Term t, Model model) {
        int most = 0;
        SortedSet<String> words = model.words(0);
        while (most < 16 && words.size() < 200 && most < 7) {
            most++;
            words = model.words(most);
        }
        if (words.size() > MOST_WORDS) {
            return;
        }
        for (int n = 0; n <= most; n++) {
            int length = n;
            int number = 0;
            for (String word : words) {
                if (word.length() == n) {
                    int place = number;
                    roomFor(20);
                    x.find(t.number, n, place);
                    Check.same("word " + place, word, Check.word(x));
                    number++;
                    if (draw(1 + words.size() / 20) == 0) {
                        compareReading(t, model, word, words, most);
                    }
                }
            }
            int all = number;
            roomFor(2);
            Check.answers("count", all, () -> x.count(t.number, length));
            Check.refuses("find behind the last", NoSuchElementException.class, () -> x.find(t.number, length, all));
        }
        for (int i = 0; i < 20; i++) {
            StringBuilder any = new StringBuilder();
            for (int n = draw(7); n > 0; n--) {
                any.append(draw(draw(2) == 0 ? 3 : 8));
            }
            compareReading(t, model, any.toString(), words, most);
        }
        compareLong(t, model);
    }

    private void compareReading(Model.Term t, Model model, String word, SortedSet<String> words, int most) {
        compareRead(t, model, word);
        if (word.length() <= most) {
            Check.holds("read and a word together", words.contains(word) == (model.read(word) < 0));
        }
        if (word.length() > 0) {
            compareRead(t, model, word.substring(0, word.length() - 1));
            compareRead(t, model, word + draw(8));
            int at = draw(word.length());
            compareRead(t, model, word.substring(0, at) + draw(8) + word.substring(at + 1));
        }
    }

    private void compareRead(Model.Term t, Model model, String word) {
        roomFor(300);
        Check.spell(x, word);
        String before = Check.trace(x);
        int stop = model.read(word);
        if (stop < 0) {
            readWords++;
            Check.answers("read", model.visits, () -> x.read(t.number));
            Check.same("trace", model.trace.toString(), Check.trace(x));
        } else {
            Check.fails("read", IllegalArgumentException.class, () -> x.read(t.number));
            Check.same("trace that stays", before, Check.trace(x));
        }
        Check.answers("stopped", stop, x::stopped);
        Check.same("word", word, Check.word(x));
    }

    // Longer than sets can be made: the words that are found must be read, and stand in order.
    private void compareLong(Model.Term t, Model model) {
        int n = 8 + draw(9);
        roomFor(100);
        long all = x.count(t.number, n);
        if (all == 0) {
            return;
        }
        long number = Math.floorMod(seed, all);
        x.find(t.number, n, number);
        String word = Check.word(x);
        compareRead(t, model, word);
        Check.holds("a long word is read", model.read(word) < 0);
        roomFor(100);
        if (number + 1 < all) {
            x.find(t.number, n, number + 1);
            Check.holds("long words in order", word.compareTo(Check.word(x)) < 0);
        }
        x.find(t.number, n, 0);
        compareRead(t, model, Check.word(x));
        roomFor(100);
        x.find(t.number, n, all - 1);
        compareRead(t, model, Check.word(x));
    }
}
