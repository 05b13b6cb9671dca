/** Compares answers with those that are due, and counts the wrong ones. */
final class Check {
    static final Class<IllegalArgumentException> ARGUMENT = IllegalArgumentException.class;
    static final Class<IllegalStateException> STATE = IllegalStateException.class;
    static final Class<IndexOutOfBoundsException> INDEX = IndexOutOfBoundsException.class;

    interface Call {
        int answer();
    }

    private static int wrong = 0;

    private Check() {
    }

    static void due(String what, long got, long want) {
        if (got != want) {
            tell(what + ": got " + got + ", due is " + want);
        }
    }

    static void refused(String what, Class<? extends RuntimeException> want, Call call) {
        try {
            tell(what + ": got " + call.answer() + ", due is " + want.getName());
        } catch (RuntimeException e) {
            if (e.getClass() != want) {
                tell(what + ": threw " + e.getClass().getName() + ", due is " + want.getName());
            }
        }
    }

    static void tell(String fault) {
        wrong++;
        System.out.println(fault);
    }

    static void end() {
        if (wrong > 0) {
            System.out.println(wrong + " wrong");
            System.exit(1);
        }
    }

    /** Puts a text instead of the one in the buffer. */
    static void write(RuledStrokes x, String text) {
        x.clearText();
        for (int i = 0; i < text.length(); i++) {
            x.append(text.charAt(i));
        }
    }

    /** Makes the figure of the text the one at hand. */
    static int draw(RuledStrokes x, String text) {
        write(x, text);
        return x.draw();
    }

    /** Learns the figure of the text by the name. */
    static int learn(RuledStrokes x, int name, String text) {
        draw(x, text);
        return x.learn(name);
    }

    /** The signs of the figure at hand, one behind the other. */
    static void dueSigns(String what, RuledStrokes x, String want) {
        StringBuilder got = new StringBuilder();
        for (int k = 0; x.sign(k) != RuledStrokes.NONE; k++) {
            got.append(x.sign(k));
        }
        if (!got.toString().equals(want)) {
            tell(what + ": got signs " + got + ", due are " + want);
        }
    }

    static void dueSignsOf(String what, RuledStrokes x, int s, String want) {
        StringBuilder got = new StringBuilder();
        for (int k = 0; x.signOf(s, k) != RuledStrokes.NONE; k++) {
            got.append(x.signOf(s, k));
        }
        if (!got.toString().equals(want)) {
            tell(what + ": got signs " + got + ", due are " + want);
        }
    }
}
