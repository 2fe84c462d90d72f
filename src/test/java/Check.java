/** What the tests share: they count wrong answers, and put terms together from a short text. */
final class Check {
    private static int wrong = 0;
    private static int made = 0;
    private static String heading = "";

    /** A call whose answer, or exception, is looked at. */
    interface Call {
        long go();
    }

    /** A call that answers nothing. */
    interface Act {
        void go();
    }

    private Check() {
    }

    static void answers(String what, long due, Call call) {
        made++;
        try {
            long got = call.go();
            if (got != due) {
                tell(what + " answered " + got + ", due is " + due);
            }
        } catch (RuntimeException e) {
            tell(what + " threw " + e + ", due is " + due);
        }
    }

    static void holds(String what, boolean got) {
        made++;
        if (!got) {
            tell(what + " does not hold");
        }
    }

    static void fails(String what, Class<? extends RuntimeException> due, Call call) {
        made++;
        try {
            tell(what + " answered " + call.go() + ", due is " + due.getName());
        } catch (RuntimeException e) {
            if (e.getClass() != due) {
                tell(what + " threw " + e + ", due is " + due.getName());
            }
        }
    }

    static void refuses(String what, Class<? extends RuntimeException> due, Act act) {
        fails(what, due, () -> {
            act.go();
            return 0;
        });
    }

    /**
     * Puts a term together, parts before wholes and from the left to the right: e EMPTY, n NONE,
     * 0 .. 7 a letter, .ab a pair, |ab an either, w x y z the variables 0 .. 3, W X Y Z a knot.
     */
    static int build(Counted x, String text) {
        int[] at = {0};
        int term = part(x, text, at);
        if (at[0] != text.length()) {
            throw new AssertionError("more than a term: " + text);
        }
        return term;
    }

    private static int part(Counted x, String text, int[] at) {
        char sign = text.charAt(at[0]++);
        if (sign == 'e') {
            return x.leaf(-1);
        }
        if (sign == 'n') {
            return x.leaf(-2);
        }
        if (sign >= '0' && sign <= '7') {
            return x.leaf(sign - '0');
        }
        if (sign >= 'w' && sign <= 'z') {
            return x.variable(sign - 'w');
        }
        if (sign >= 'W' && sign <= 'Z') {
            return x.knot(sign - 'W', part(x, text, at));
        }
        int a = part(x, text, at);
        int b = part(x, text, at);
        return x.join(a, b, sign == '|');
    }

    /** The word becomes that of a text of digits. */
    static void spell(Counted x, String letters) {
        x.cut(0);
        for (int i = 0; i < letters.length(); i++) {
            x.put(letters.charAt(i) - '0');
        }
    }

    static String word(Counted x) {
        StringBuilder text = new StringBuilder();
        int length = x.length();
        for (int i = 0; i < length; i++) {
            text.append(x.letter(i));
        }
        return text.toString();
    }

    static String trace(Counted x) {
        StringBuilder text = new StringBuilder();
        int steps = x.trace();
        for (int i = 0; i < steps; i++) {
            text.append(x.step(i));
        }
        return text.toString();
    }

    static void same(String what, String due, String got) {
        made++;
        if (!due.equals(got)) {
            tell(what + " is \"" + got + "\", due is \"" + due + "\"");
        }
    }

    /** How many answers were looked at until now. */
    static int made() {
        return made;
    }

    /** What is told stands under a heading from now on: where it is due. */
    static void under(String text) {
        heading = text;
    }

    static void tell(String line) {
        wrong++;
        if (wrong <= 40) {
            System.out.println(heading.isEmpty() ? line : heading + ": " + line);
        }
    }

    /** Ends the test, with exit code 1 if an answer was wrong. */
    static void end() {
        System.out.println(made + " answers, " + wrong + " of them not as due");
        if (wrong != 0) {
            System.exit(1);
        }
    }
}
