/** Promises 1 to 4 and 13: a new object, the text buffer, and the figure of the text. */
public final class TextTest {
    private static final String TWELVE = "1,1-2,2-3,3-4,4-5,5-6,6-7,7-8,8-9,9-1,2-3,4-5,6";

    public static void main(String[] args) {
        newObject();
        appending();
        clearing();
        errors();
        numbers();
        drawing();
        drawingRefused();
        Check.end();
    }

    private static void newObject() {
        RuledStrokes x = new RuledStrokes();
        for (int what = 0; what <= 7; what++) {
            Check.due("new: about(" + what + ")", x.about(what), 0);
        }
        for (int name = 0; name <= 9; name++) {
            for (int what = 0; what <= 2; what++) {
                Check.due("new: practised", x.practised(name, what), 0);
            }
        }
        Check.due("new: ruling", x.setting(0), 10);
        Check.due("new: limit", x.setting(1), 12);
        Check.due("new: margin", x.setting(2), 1);
        Check.due("new: no text", x.clearText(), 0);
        Check.refused("new: no sample", Check.INDEX, () -> x.sample(0, 0));
        Check.refused("new: no state", Check.STATE, x::undo);
        Check.refused("new: slot 0", Check.STATE, () -> x.restore(0));
        Check.refused("new: slot 1", Check.STATE, () -> x.restore(1));
        Check.due("NONE", RuledStrokes.NONE, -1);
    }

    private static void appending() {
        RuledStrokes x = new RuledStrokes();
        Check.refused("append(-1)", Check.ARGUMENT, () -> x.append(-1));
        Check.refused("append(256)", Check.ARGUMENT, () -> x.append(256));
        Check.due("append(0)", x.append(0), 1);
        Check.due("append(255)", x.append(255), 2);
        for (int length = 3; length <= 100; length++) {
            Check.due("append", x.append('1'), length);
        }
        Check.refused("append behind 100", Check.STATE, () -> x.append('1'));
        Check.refused("append wrong behind 100", Check.ARGUMENT, () -> x.append(256));
        Check.due("length behind what was refused", x.clearText(), 100);
    }

    private static void clearing() {
        RuledStrokes x = new RuledStrokes();
        Check.write(x, "1,2-3");
        Check.due("clearText", x.clearText(), 5);
        Check.due("clearText again", x.clearText(), 0);
        Check.due("append behind clearText", x.append('7'), 1);
        Check.refused("text is no action", Check.STATE, x::undo);
        Check.draw(x, "1,2");
        x.undo();
        Check.due("undo leaves the text", x.clearText(), 3);
        Check.write(x, "1,2-3");
        x.save(0);
        x.clearText();
        x.restore(0);
        Check.due("restore leaves the text", x.clearText(), 0);
    }

    private static void error(String text, int want) {
        RuledStrokes x = new RuledStrokes();
        Check.write(x, text);
        Check.due("errorPosition of " + text, x.errorPosition(), want);
        Check.due("errorPosition keeps the text", x.clearText(), text.length());
    }

    private static void errors() {
        error("", 0);
        error("1", 1);
        error("1,", 2);
        error("1,1", -1);
        error("1,1-", 4);
        error("1,1/", 4);
        error("1,1-2", 5);
        error("1,1-2,2/3,3-4,4/5,5", -1);
        error(",", 0);
        error("-1,1", 0);
        error("/1,1", 0);
        error("x", 0);
        error("1-1", 1);
        error("1/1", 1);
        error("1,1,1", 3);
        error("1,,1", 2);
        error("1,-1", 2);
        error("1,/1", 2);
        error("1,1--2,2", 4);
        error("1,1-/2,2", 4);
        error("1,1//2,2", 4);
        error("1,1 ", 3);
        error("1, 1", 2);
        error("1.1", 1);
        error("1,1:", 3);
        error("1,1/2,2/3,3/", 11);
        error("1,1/2,2/3,3-", 12);
        error(TWELVE, -1);
        error(TWELVE + "-", 47);
        error(TWELVE + "/1,1", -1);
        error(TWELVE + "/" + TWELVE, -1);
        error(TWELVE + "/" + TWELVE + "-", 95);
        error("0,0-60,60-0,0-60,60-0,0-60,60", -1);
        error("1,1" + (char) 255, 3);
    }

    private static void numbers() {
        for (int first = 0; first <= 99; first++) {
            String digits = Integer.toString(first);
            error(digits + ",1", first <= 60 ? -1 : 1);
            error("1," + digits, first <= 60 ? -1 : 3);
        }
        error("00,1", 1);
        error("01,1", 1);
        error("1,00", 3);
        error("1,05", 3);
        error("600,1", 2);
        error("100,1", 2);
        error("1,600", 4);
        error("1,123", 4);
    }

    private static void drawing() {
        RuledStrokes x = new RuledStrokes();
        Check.due("draw", Check.draw(x, "5,5-25,45/45,5-40,5/1,1"), 8);
        Check.due("draw: strokes", x.about(0), 3);
        Check.due("draw: points", x.about(1), 5);
        Check.due("draw: none goes on", x.about(2), 0);
        Check.dueSigns("draw", x, "10110144");
        Check.due("draw again keeps the text", x.draw(), 8);
        Check.due("the text is there", x.clearText(), 23);
        Check.due("undo of draw", x.undo(), 1);
        Check.due("undo of draw", x.undo(), 0);
        Check.due("nothing is drawn", x.about(0), 0);
        x.point(1, 1);
        Check.draw(x, "60,60");
        Check.due("draw is instead of what was there", x.about(1), 1);
        Check.due("a stroke that went on goes on no more", x.about(2), 0);
        x.point(2, 2);
        Check.due("the next point begins a stroke", x.about(0), 2);
    }

    private static void drawingRefused() {
        RuledStrokes x = new RuledStrokes();
        x.point(3, 3);
        for (String text : new String[] {"", "1,1-", "1,1/", "61,1", "1,1/2,2/3,3/4,4", TWELVE + "-1,1"}) {
            Check.write(x, text);
            Check.refused("draw " + text, Check.STATE, x::draw);
        }
        Check.write(x, "0,0-60,60-0,0-60,60-60,19");
        Check.due("too many signs are no error", x.errorPosition(), -1);
        Check.refused("draw 41 signs", Check.STATE, x::draw);
        Check.write(x, "0,0-60,60-0,0-60,60-60,20/1,1");
        Check.refused("draw 40 signs and a break", Check.STATE, x::draw);
        Check.due("refused: points", x.about(1), 1);
        Check.due("refused: goes on", x.about(2), 1);
        Check.due("refused: not remembered", x.undo(), 0);
        Check.due("draw 40 signs", Check.draw(x, "0,0-60,60-0,0-60,60-60,20"), 40);
        x.set(0, 20);
        Check.due("draw by another ruling", Check.draw(x, "0,0-60,60-0,0-60,60-60,19"), 18 + 3);
    }
}
