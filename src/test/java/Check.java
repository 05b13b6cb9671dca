/** Compares answers with those that are due, and counts the wrong ones. */
final class Check {
    static final Class<IllegalArgumentException> ARGUMENT = IllegalArgumentException.class;
    static final Class<IllegalStateException> STATE = IllegalStateException.class;
    static final Class<IndexOutOfBoundsException> INDEX = IndexOutOfBoundsException.class;

    interface Call {
        int answer();
    }

    private static int wrong = 0;
    private static String said = "";

    private Check() {
    }

    /** Names the section and the sentence of the document that the checks behind it are about. */
    static void says(String section, String sentence) {
        said = section + ": " + sentence + "\n    ";
    }

    static void due(String what, long got, long want) {
        if (got != want) {
            tell(what + ": got " + got + ", due is " + want);
        }
    }

    static void same(String what, String got, String want) {
        if (!got.equals(want)) {
            tell(what + ": got " + got + ", due is " + want);
        }
    }

    static void refused(String what, Class<? extends RuntimeException> want, Call call) {
        try {
            tell(what + ": got " + call.answer() + ", due is " + want.getName());
        } catch (RuntimeException e) {
            if (e.getClass() != want) {
                tell(what + ": threw " + e.getClass().getName() + ", due is " + want.getName());
            }
        }
    }

    static void tell(String fault) {
        wrong++;
        System.out.println(said + fault);
    }

    static void end() {
        if (wrong > 0) {
            System.out.println(wrong + " wrong");
            System.exit(1);
        }
    }

    /** The signs of the figure at hand, one behind the other. */
    static String signs(RuledStrokes x) {
        StringBuilder signs = new StringBuilder();
        for (int k = 0; x.sign(k) != RuledStrokes.NONE; k++) {
            signs.append(x.sign(k));
        }
        return signs.toString();
    }

    static String signsOf(RuledStrokes x, int s) {
        StringBuilder signs = new StringBuilder();
        for (int k = 0; x.signOf(s, k) != RuledStrokes.NONE; k++) {
            signs.append(x.signOf(s, k));
        }
        return signs.toString();
    }

    static void dueSigns(String what, RuledStrokes x, String want) {
        same(what, signs(x), want);
    }

    static void dueSignsOf(String what, RuledStrokes x, int s, String want) {
        same(what, signsOf(x, s), want);
    }

    /** read(0) to read(3). */
    static void dueRead(String what, RuledStrokes x, int... want) {
        for (int i = 0; i < 4; i++) {
            due(what + ": read(" + i + ")", x.read(i), want[i]);
        }
    }

    /** about(0), about(1) and so on. */
    static void dueAbout(String what, RuledStrokes x, int... want) {
        for (int i = 0; i < want.length; i++) {
            due(what + ": about(" + i + ")", x.about(i), want[i]);
        }
    }
}
