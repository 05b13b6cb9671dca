/** Promises 11, 12 and 14 to 18: points, lifting, samples, practice, settings, undo. */
public final class ActionsTest {
    private static final String FORTY = "0,0-60,60-0,0-60,60-60,20";

    public static void main(String[] args) {
        points();
        pointsRefused();
        lifting();
        learning();
        learningRefused();
        forgetting();
        practising();
        practisingRefused();
        setting();
        settingRefused();
        undoing();
        undoTakesBackEach();
        Check.end();
    }

    private static void points() {
        RuledStrokes x = new RuledStrokes();
        Check.due("first point", x.point(0, 0), 0);
        Check.due("second point", x.point(60, 60), 12);
        Check.due("third point", x.point(60, 60), 12);
        x.lift();
        Check.due("point of a new stroke", x.point(0, 0), 13);
        Check.due("strokes", x.about(0), 2);
        Check.due("points", x.about(1), 4);
        Check.dueSigns("signs", x, "010101010101" + "4");
    }

    private static void pointsRefused() {
        RuledStrokes x = new RuledStrokes();
        Check.refused("point(-1, 0)", Check.ARGUMENT, () -> x.point(-1, 0));
        Check.refused("point(0, -1)", Check.ARGUMENT, () -> x.point(0, -1));
        Check.refused("point(61, 0)", Check.ARGUMENT, () -> x.point(61, 0));
        Check.refused("point(0, 61)", Check.ARGUMENT, () -> x.point(0, 61));
        for (int stroke = 1; stroke <= 3; stroke++) {
            for (int i = 1; i <= 12; i++) {
                Check.due("point of stroke " + stroke, x.point(i % 5, i % 7), stroke - 1);
            }
            Check.refused("13th point", Check.STATE, () -> x.point(5, 5));
            Check.refused("13th point, wrong", Check.ARGUMENT, () -> x.point(5, 61));
            x.lift();
        }
        Check.refused("fourth stroke", Check.STATE, () -> x.point(5, 5));
        Check.due("strokes", x.about(0), 3);
        Check.due("points", x.about(1), 36);
        tooManySigns();
    }

    private static void tooManySigns() {
        RuledStrokes x = new RuledStrokes();
        for (int i = 0; i < 4; i++) {
            x.point(i % 2 * 60, i % 2 * 60);
        }
        Check.refused("41 signs", Check.STATE, () -> x.point(60, 19));
        Check.due("nothing has changed", x.about(1), 4);
        Check.due("nothing has changed", x.about(3), 36);
        Check.due("40 signs", x.point(60, 20), 40);
        Check.due("40 signs still", x.point(60, 29), 40);
        x.lift();
        Check.refused("a break as the 41st", Check.STATE, () -> x.point(0, 0));
        Check.due("no stroke has begun", x.about(0), 1);
        Check.due("no stroke goes on", x.about(2), 0);
        Check.due("what was refused is not remembered", x.undo(), 6);
        RuledStrokes y = new RuledStrokes();
        Check.due("39 signs", Check.draw(y, "0,0-60,60-0,0-60,60-60,30"), 39);
        Check.due("a break as the 40th", y.point(0, 0), 40);
    }

    private static void lifting() {
        RuledStrokes x = new RuledStrokes();
        Check.due("lift without strokes", x.lift(), 0);
        x.point(1, 1);
        Check.due("lift", x.lift(), 1);
        Check.due("none goes on", x.about(2), 0);
        Check.due("lift again", x.lift(), 1);
        x.point(1, 1);
        Check.due("lift", x.lift(), 2);
        Check.due("each lift is remembered", x.undo(), 5);
        Check.due("the stroke goes on again", x.about(2), 1);
    }

    private static void learning() {
        RuledStrokes x = new RuledStrokes();
        x.point(5, 5);
        x.point(15, 5);
        Check.due("learn", x.learn(9), 0);
        Check.due("no strokes then", x.about(0), 0);
        Check.due("no points then", x.about(1), 0);
        Check.due("none goes on then", x.about(2), 0);
        Check.due("no signs then", x.about(3), 0);
        Check.due("point then", x.point(5, 5), 0);
        Check.due("a stroke has begun", x.about(0), 1);
        Check.due("learn another", x.learn(0), 1);
        Check.due("the same signature by the same name", Check.learn(x, 9, "1,1-11,1"), 2);
        Check.due("no sample is another figure", x.sample(0, 0), 9);
        Check.dueSignsOf("sample 0", x, 0, "0");
        Check.dueSignsOf("sample 1", x, 1, "");
    }

    private static void learningRefused() {
        RuledStrokes x = new RuledStrokes();
        Check.refused("learn(-1)", Check.ARGUMENT, () -> x.learn(-1));
        Check.refused("learn(10)", Check.ARGUMENT, () -> x.learn(10));
        Check.refused("learn without strokes", Check.STATE, () -> x.learn(0));
        Check.learn(x, 1, "5,5-45,5/5,5");
        Check.draw(x, "1,1-41,1/9,9");
        Check.refused("the same signature", Check.STATE, () -> x.learn(2));
        Check.due("it is at hand still", x.about(1), 3);
        Check.draw(x, "1,1-41,1");
        Check.due("a signature that is begun by it", x.learn(2), 1);
        for (int s = 2; s < 16; s++) {
            Check.due("learn", Check.learn(x, s % 2, "5,5-5," + (10 + s % 2 * 10)), s);
        }
        Check.draw(x, "5,5-5,55");
        Check.refused("17th sample", Check.STATE, () -> x.learn(3));
        Check.refused("17th sample, wrong", Check.ARGUMENT, () -> x.learn(10));
        x.forget(15);
        Check.due("there is room again", x.learn(3), 15);
    }

    private static void forgetting() {
        RuledStrokes x = new RuledStrokes();
        Check.refused("forget(0)", Check.INDEX, () -> x.forget(0));
        for (int s = 0; s < 4; s++) {
            Check.learn(x, s, "5,5-5," + (5 + 10 * s));
        }
        Check.refused("forget(-1)", Check.INDEX, () -> x.forget(-1));
        Check.refused("forget(4)", Check.INDEX, () -> x.forget(4));
        x.point(3, 3);
        Check.due("forget(1)", x.forget(1), 3);
        Check.due("names behind it", x.sample(1, 0) * 10 + x.sample(2, 0), 23);
        Check.dueSignsOf("signs behind it", x, 1, "11");
        Check.dueSignsOf("signs before it", x, 0, "");
        Check.due("the figure at hand stays", x.about(1), 1);
        Check.due("and goes on", x.about(2), 1);
        Check.due("forget the last", x.forget(2), 2);
        Check.due("forget the first", x.forget(0), 1);
        Check.due("name", x.sample(0, 0), 2);
        Check.due("forget all", x.forget(0), 0);
    }

    private static void practising() {
        RuledStrokes x = new RuledStrokes();
        x.point(5, 5);
        Check.due("strange without samples", x.practise(0), 1);
        Check.due("no strokes then", x.about(0), 0);
        Check.due("none goes on then", x.about(2), 0);
        Check.learn(x, 4, "5,5-45,5");
        Check.draw(x, "5,5-55,5");
        Check.due("right", x.practise(4), 0);
        Check.draw(x, "5,5-55,5");
        Check.due("wrong", x.practise(5), 2);
        Check.learn(x, 5, "5,5-5,45");
        Check.draw(x, "5,5-25,45-25,55");
        x.set(2, 20);
        Check.due("tie", x.practise(5), 1);
        Check.due("practised(4, 0)", x.practised(4, 0), 1);
        Check.due("practised(5, 1)", x.practised(5, 1), 1);
        Check.due("practised(5, 2)", x.practised(5, 2), 1);
        Check.due("practised(0, 1)", x.practised(0, 1), 1);
        Check.due("samples stay", x.about(4), 2);
    }

    private static void practisingRefused() {
        RuledStrokes x = new RuledStrokes();
        Check.refused("practise(-1)", Check.ARGUMENT, () -> x.practise(-1));
        Check.refused("practise(10)", Check.ARGUMENT, () -> x.practise(10));
        Check.refused("practise without strokes", Check.STATE, () -> x.practise(0));
        Check.due("nothing is counted", x.about(5), 0);
        Check.refused("nothing is remembered", Check.STATE, x::undo);
    }

    private static void setting() {
        RuledStrokes x = new RuledStrokes();
        Check.due("set(0, 20)", x.set(0, 20), 10);
        Check.due("set(0, 5)", x.set(0, 5), 20);
        Check.due("set(0, 5) again", x.set(0, 5), 5);
        Check.due("set(1, 0)", x.set(1, 0), 12);
        Check.due("set(1, 99)", x.set(1, 99), 0);
        Check.due("set(2, 20)", x.set(2, 20), 1);
        Check.due("set(2, 1)", x.set(2, 1), 20);
        Check.due("each is remembered", x.undo(), 6);
        Check.due("taken back", x.setting(2), 20);
        RuledStrokes y = new RuledStrokes();
        Check.learn(y, 1, "5,5-15,5");
        Check.learn(y, 2, "5,5-5,15");
        Check.draw(y, "5,5-45,45");
        y.set(0, 20);
        Check.due("like signatures with other names", y.sample(0, 3) + y.sample(1, 3), 0);
        Check.dueSigns("by 20", y, "0101");
        y.set(0, 7);
        Check.dueSignsOf("by 7", y, 0, "00");
        Check.dueSigns("by 7", y, "010101010101");
    }

    private static void settingRefused() {
        RuledStrokes x = new RuledStrokes();
        int[][] wrong = {{-1, 5}, {3, 5}, {0, 4}, {0, 21}, {1, -1}, {1, 100}, {2, 0}, {2, 21}};
        for (int[] pair : wrong) {
            Check.refused("set(" + pair[0] + ", " + pair[1] + ")", Check.ARGUMENT,
                    () -> x.set(pair[0], pair[1]));
        }
        Check.draw(x, FORTY);
        Check.due("40 signs by 9, too", x.set(0, 9), 10);
        Check.due("and back", x.set(0, 10), 9);
        Check.refused("the figure at hand has too many", Check.STATE, () -> x.set(0, 8));
        Check.due("ruling", x.setting(0), 10);
        Check.due("signs", x.about(3), 40);
        x.learn(0);
        Check.learn(x, 1, "5,5");
        Check.refused("a sample has too many", Check.STATE, () -> x.set(0, 8));
        Check.refused("wrong comes first", Check.ARGUMENT, () -> x.set(0, 4));
        Check.due("signs", x.sample(0, 3), 40);
        Check.due("fewer are fine", x.set(0, 11), 10);
        Check.due("and back", x.set(0, 10), 11);
        breaksByAnotherRuling();
    }

    private static void breaksByAnotherRuling() {
        String by7 = "0,0-60,60-0,0-";
        dueSignsBy7(by7 + "60,0", 40);
        dueSignsBy7(by7 + "60,0/1,1", 41);
        dueSignsBy7(by7 + "55,0/1,1", 40);
        dueSignsBy7(by7 + "55,0/1,1/1,1", 41);
        dueSignsBy7(by7 + "48,0/1,1/1,1", 40);
    }

    /** By the ruling 7; one of more than 40 is refused at hand and as a sample. */
    private static void dueSignsBy7(String text, int want) {
        RuledStrokes x = new RuledStrokes();
        Check.draw(x, text);
        for (int i = 0; i < 2; i++) {
            if (want > 40) {
                Check.refused(text + " by 7", Check.STATE, () -> x.set(0, 7));
                Check.due(text + ": ruling", x.setting(0), 10);
            } else {
                Check.due(text + " by 7", x.set(0, 7), 10);
                Check.due(text + ": signs", i == 0 ? x.about(3) : x.sample(0, 3), want);
                x.set(0, 10);
            }
            if (i == 0) {
                x.learn(1);
            }
        }
    }

    private static void undoing() {
        RuledStrokes x = new RuledStrokes();
        for (int i = 0; i < 20; i++) {
            x.set(1, i);
        }
        for (int left = 13; left >= 0; left--) {
            Check.due("undo", x.undo(), left);
            Check.due("limit", x.setting(1), left + 5);
        }
        Check.refused("undo behind 14", Check.STATE, x::undo);
        Check.due("limit", x.setting(1), 5);
        x.set(1, 50);
        x.set(1, 51);
        x.undo();
        x.set(1, 52);
        Check.due("undo", x.undo(), 1);
        Check.due("limit", x.setting(1), 50);
        Check.due("undo", x.undo(), 0);
        Check.due("limit", x.setting(1), 5);
    }

    private static void undoTakesBackEach() {
        RuledStrokes x = new RuledStrokes();
        x.point(5, 5);
        x.point(45, 5);
        x.learn(3);
        x.undo();
        Check.due("undo of learn", x.about(4) * 100 + x.about(3) * 10 + x.about(2), 41);
        x.undo();
        Check.due("undo of point", x.about(1) * 10 + x.about(3), 10);
        x.undo();
        Check.due("undo of the first point", x.about(0) * 10 + x.about(2), 0);
        Check.learn(x, 3, "5,5-45,5");
        x.forget(0);
        x.undo();
        Check.due("undo of forget", x.sample(0, 0), 3);
        Check.dueSignsOf("undo of forget", x, 0, "0000");
        x.point(5, 5);
        x.practise(3);
        x.undo();
        Check.due("undo of practise", x.about(5) * 100 + x.about(1) * 10 + x.about(2), 11);
        x.set(0, 20);
        x.undo();
        Check.dueSignsOf("undo of set", x, 0, "0000");
        x.lift();
        x.undo();
        Check.due("undo of lift", x.about(2), 1);
        Check.draw(x, "5,5-15,5");
        x.undo();
        Check.due("undo of draw", x.about(1) * 10 + x.about(2), 11);
    }
}
