/** Figures and objects that tests begin with, and what can be seen of an object. */
final class Scenes {
    /** A text of 40 signs by the rulings 10 and 9; by 8 there would be 47. */
    static final String FORTY = "0,0-60,60-0,0-60,60-60,20";
    static final String TWELVE = "1,1-2,2-3,3-4,4-5,5-6,6-7,7-8,8-9,9-1,2-3,4-5,6";

    interface Scene {
        RuledStrokes make();
    }

    private Scenes() {
    }

    /** Puts a text instead of the one in the buffer. */
    static void write(RuledStrokes x, String text) {
        x.clearText();
        for (int i = 0; i < text.length(); i++) {
            x.append(text.charAt(i));
        }
    }

    /** Makes the figure of the text the one at hand. */
    static int draw(RuledStrokes x, String text) {
        write(x, text);
        return x.draw();
    }

    /** Learns the figure of the text by the name. */
    static int learn(RuledStrokes x, int name, String text) {
        draw(x, text);
        return x.learn(name);
    }

    /** The text of a figure that has these signs by the ruling 10. */
    static String figure(String signs) {
        StringBuilder text = new StringBuilder();
        for (String stroke : signs.split("4", -1)) {
            text.append(text.length() > 0 ? "/" : "").append(stroke(stroke));
        }
        return text.toString();
    }

    /** Goes through the middles of squares, and begins so that it never leaves the grid. */
    private static String stroke(String signs) {
        int[] right = {10, 0, -10, 0};
        int[] down = {0, 10, 0, -10};
        int leastX = 0;
        int leastY = 0;
        int x = 0;
        int y = 0;
        for (char sign : signs.toCharArray()) {
            x += right[sign - '0'];
            y += down[sign - '0'];
            leastX = Math.min(leastX, x);
            leastY = Math.min(leastY, y);
        }
        x = 5 - leastX;
        y = 5 - leastY;
        StringBuilder text = new StringBuilder().append(x).append(',').append(y);
        for (int i = 0; i < signs.length(); i++) {
            x += right[signs.charAt(i) - '0'];
            y += down[signs.charAt(i) - '0'];
            if (i + 1 == signs.length() || signs.charAt(i + 1) != signs.charAt(i)) {
                text.append('-').append(x).append(',').append(y);
            }
        }
        return text.toString();
    }

    /** Signs of which it costs so much to take them all out: 0, or 2 to 26. */
    static String costing(int cost) {
        String strokes = cost % 2 == 1 ? "4" : cost > 20 ? "44" : "";
        int signs = (cost - 3 * strokes.length()) / 2;
        int across = Math.min(signs, 5);
        return strokes + "0".repeat(across) + "1".repeat(signs - across);
    }

    /** Two samples, 0: name 3, 0000, and 1: name 7, 1111; at hand 000, which goes on. */
    static RuledStrokes two() {
        RuledStrokes x = new RuledStrokes();
        learn(x, 3, figure("0000"));
        learn(x, 7, figure("1111"));
        x.point(5, 5);
        x.point(35, 5);
        return x;
    }

    /**
     * Something of everything: three samples, all outcomes of practice, other settings, a stroke
     * that goes on, a text that is no figure, more than 14 actions, slot 0; nothing in slot 1.
     */
    static RuledStrokes used() {
        RuledStrokes x = new RuledStrokes();
        learn(x, 3, figure("0000"));
        x.point(5, 5);
        x.save(0);
        learn(x, 7, figure("1111"));
        practise(x, "000", 3);
        practise(x, "0011", 7);
        practise(x, "111", 0);
        learn(x, 3, figure("0011"));
        x.set(0, 9);
        x.set(1, 20);
        x.set(2, 3);
        write(x, "1,1-");
        x.point(5, 5);
        x.point(41, 5);
        return x;
    }

    private static void practise(RuledStrokes x, String signs, int name) {
        draw(x, figure(signs));
        x.practise(name);
    }

    /** So many samples, the names being 0 to 9 and 0 to 5, with signatures that all differ. */
    static RuledStrokes withSamples(int count) {
        RuledStrokes x = new RuledStrokes();
        for (int s = 0; s < count; s++) {
            x.point(5, 5);
            x.point(5 + 10 * (s % 4), 5);
            x.point(5 + 10 * (s % 4), 5 + 10 * (s / 4));
            x.learn(s % 10);
        }
        return x;
    }

    /** The signs of such a sample. */
    static String signsOfSample(int s) {
        return "0".repeat(s % 4) + "1".repeat(s / 4);
    }

    /** All that can be seen of an object while nothing is changed. */
    static String seen(RuledStrokes x) {
        return state(x) + " error " + x.errorPosition();
    }

    /** All that can be seen of its state. */
    static String state(RuledStrokes x) {
        StringBuilder state = new StringBuilder(figures(x)).append(" practised");
        for (int i = 0; i < 30; i++) {
            state.append(' ').append(x.practised(i / 3, i % 3));
        }
        return state.toString();
    }

    private static String figures(RuledStrokes x) {
        StringBuilder figures = new StringBuilder(numbers(x)).append(" signs ").append(Check.signs(x));
        int samples = x.about(4);
        for (int s = 0; s < samples; s++) {
            figures.append(" sample");
            for (int what = 0; what < 4; what++) {
                figures.append(' ').append(x.sample(s, what));
            }
            figures.append(' ').append(Check.signsOf(x, s));
        }
        return figures.toString();
    }

    private static String numbers(RuledStrokes x) {
        StringBuilder numbers = new StringBuilder("about");
        for (int what = 0; what < 8; what++) {
            numbers.append(' ').append(x.about(what));
        }
        numbers.append(" setting");
        for (int what = 0; what < 3; what++) {
            numbers.append(' ').append(x.setting(what));
        }
        return numbers.toString();
    }

    /** Also what is remembered, saved and written; some 400 calls, and the object has changed then. */
    static String all(RuledStrokes x) {
        StringBuilder all = new StringBuilder(seen(x));
        String left = "";
        for (int i = 0; i < 20 && !isException(left); i++) {
            left = outcome(x::undo);
            all.append("\n undo ").append(left).append(' ').append(numbers(x));
        }
        all.append("\n text ").append(x.clearText());
        for (int slot = 0; slot < 2; slot++) {
            int at = slot;
            String samples = outcome(() -> x.restore(at));
            all.append("\n restore ").append(samples).append(isException(samples) ? "" : figures(x));
        }
        return all.toString();
    }

    static boolean isException(String outcome) {
        return outcome.startsWith("java");
    }

    /** What the call answers, or the name of the exception that it throws. */
    static String outcome(Check.Call call) {
        try {
            return Integer.toString(call.answer());
        } catch (RuntimeException e) {
            return e.getClass().getName();
        }
    }
}
