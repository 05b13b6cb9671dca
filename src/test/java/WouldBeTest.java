/** Promises 19 to 25: reading, distances, mixed up samples, rulings, the mirrored figure. */
public final class WouldBeTest {
    public static void main(String[] args) {
        reading();
        limits();
        margins();
        rivals();
        nearestOnes();
        distances();
        distancesRefused();
        closestTwo();
        readByOthers();
        bestRulings();
        rulingsThatDoNotCount();
        mirroredFigures();
        forgottenOnes();
        nothingChanges();
        Check.end();
    }

    private static void dueRead(String what, RuledStrokes x, int... want) {
        for (int i = 0; i < 4; i++) {
            Check.due(what + ": read(" + i + ")", x.read(i), want[i]);
        }
    }

    /** A stroke that crosses so many columns to the right and then so many rows downwards. */
    private static String hook(int columns, int rows) {
        int x = 5 + 10 * columns;
        return "5,5-" + x + ",5-" + x + "," + (5 + 10 * rows);
    }

    private static void reading() {
        RuledStrokes x = new RuledStrokes();
        dueRead("no samples, no strokes", x, 2, -1, -1, -1);
        Check.draw(x, hook(3, 0));
        dueRead("no samples", x, 2, -1, -1, -1);
        Check.learn(x, 5, hook(5, 0));
        Check.learn(x, 6, hook(0, 5));
        dueRead("no strokes: a tie", x, 1, -1, 10, 0);
        Check.draw(x, hook(1, 4));
        dueRead("near to the second", x, 0, 6, 2, 1);
        Check.draw(x, hook(4, 1));
        dueRead("near to the first", x, 0, 5, 2, 0);
        Check.refused("read(-1)", Check.ARGUMENT, () -> x.read(-1));
        Check.refused("read(4)", Check.ARGUMENT, () -> x.read(4));
        Check.learn(x, 5, hook(4, 1));
        Check.draw(x, hook(4, 1));
        dueRead("the third is nearest", x, 0, 5, 0, 2);
    }

    private static void limits() {
        RuledStrokes x = new RuledStrokes();
        Check.learn(x, 3, "5,5");
        Check.draw(x, "5,5-55,5-55,15");
        dueRead("at the limit", x, 0, 3, 12, 0);
        x.set(1, 11);
        dueRead("above the limit", x, 2, -1, 12, 0);
        x.set(1, 0);
        dueRead("far above the limit", x, 2, -1, 12, 0);
        Check.draw(x, "7,7-8,8");
        dueRead("at the limit 0", x, 0, 3, 0, 0);
        x.set(1, 99);
        Check.draw(x, "5,5-55,55/55,5-5,55-5,5-15,5");
        dueRead("far", x, 0, 3, 55, 0);
    }

    private static void margins() {
        RuledStrokes x = new RuledStrokes();
        Check.learn(x, 1, hook(1, 0));
        Check.learn(x, 2, hook(4, 0));
        Check.draw(x, hook(2, 0));
        dueRead("2 and 4 by the margin 1", x, 0, 1, 2, 0);
        x.set(2, 2);
        dueRead("2 and 4 by the margin 2", x, 0, 1, 2, 0);
        x.set(2, 3);
        dueRead("2 and 4 by the margin 3", x, 1, -1, 2, 0);
        x.set(1, 1);
        dueRead("strange comes before a tie", x, 2, -1, 2, 0);
        x.set(1, 2);
        dueRead("the rival may be above the limit", x, 1, -1, 2, 0);
    }

    private static void rivals() {
        RuledStrokes x = new RuledStrokes();
        Check.learn(x, 1, hook(1, 0));
        Check.learn(x, 1, hook(3, 0));
        Check.draw(x, hook(2, 0));
        dueRead("like ones with the same name", x, 0, 1, 2, 0);
        Check.learn(x, 8, hook(2, 1));
        Check.draw(x, hook(2, 0));
        dueRead("like ones with other names", x, 1, -1, 2, 0);
        x.forget(0);
        x.forget(0);
        dueRead("the rivals are forgotten", x, 0, 8, 2, 0);
    }

    private static void nearestOnes() {
        RuledStrokes x = new RuledStrokes();
        Check.refused("nearest(0) without samples", Check.INDEX, () -> x.nearest(0));
        Check.learn(x, 1, hook(5, 0));
        Check.learn(x, 2, hook(2, 0));
        Check.learn(x, 2, hook(4, 0));
        Check.learn(x, 3, hook(2, 1));
        Check.draw(x, hook(3, 0));
        int[] want = {1002, 2002, 3002, 4};
        for (int k = 0; k < 4; k++) {
            Check.due("nearest(" + k + ")", x.nearest(k), want[k]);
        }
        Check.refused("nearest(4)", Check.INDEX, () -> x.nearest(4));
        Check.refused("nearest(-1)", Check.INDEX, () -> x.nearest(-1));
        Check.draw(x, hook(5, 0));
        Check.due("nearest(0)", x.nearest(0), 0);
        Check.due("nearest(3)", x.nearest(3), 3006);
    }

    private static void dueBetween(String one, String other, int want) {
        RuledStrokes x = new RuledStrokes();
        Check.learn(x, 1, one);
        Check.learn(x, 1, other);
        String what = "between " + one + " and " + other;
        Check.due(what, x.between(0, 1), want);
        Check.due(what + ", the other way", x.between(1, 0), want);
        Check.due(what + ", with itself", x.between(1, 1), 0);
    }

    private static void distances() {
        String right = "5,5-15,5";
        String left = "15,5-5,5";
        String down = "5,5-5,15";
        String up = "5,15-5,5";
        dueBetween("5,5", right, 2);
        dueBetween("5,5", left, 2);
        dueBetween("5,5", down, 2);
        dueBetween("5,5", up, 2);
        dueBetween("5,5", "5,5/5,5", 3);
        dueBetween(right, left, 3);
        dueBetween(down, up, 3);
        dueBetween(right, down, 2);
        dueBetween(right, up, 2);
        dueBetween(left, down, 2);
        dueBetween(left, up, 2);
        dueBetween(right, "5,5/5,5", 5);
        dueBetween(left, "5,5/5,5", 5);
        dueBetween(down, "5,5/5,5", 5);
        dueBetween(up, "5,5/5,5", 5);
        dueBetween("5,5/5,5", "5,5/5,5/5,5", 3);
        dueBetween(hook(4, 0), hook(0, 4), 8);
        dueBetween("5,5-45,5", "45,5-5,5", 12);
        dueBetween("5,5-25,5-5,5", "25,5-5,5-25,5", 8);
        dueBetween(right + "/" + down, down + "/" + right, 4);
        dueBetween("5,5-25,5/15,5", "5,5/5,5-25,5", 6);
        dueBetween("0,0-60,60-0,0-60,60-60,20", "5,5", 80);
    }

    private static void distancesRefused() {
        RuledStrokes x = new RuledStrokes();
        Check.refused("between(0, 0)", Check.INDEX, () -> x.between(0, 0));
        Check.learn(x, 1, "5,5");
        Check.refused("between(0, 1)", Check.INDEX, () -> x.between(0, 1));
        Check.refused("between(1, 0)", Check.INDEX, () -> x.between(1, 0));
        Check.refused("between(-1, 0)", Check.INDEX, () -> x.between(-1, 0));
        Check.refused("between(0, -1)", Check.INDEX, () -> x.between(0, -1));
        Check.due("between(0, 0)", x.between(0, 0), 0);
    }

    private static void closestTwo() {
        RuledStrokes x = new RuledStrokes();
        Check.due("no samples", x.closest(), -1);
        Check.learn(x, 1, hook(5, 5));
        Check.due("one sample", x.closest(), -1);
        Check.learn(x, 1, hook(5, 5));
        Check.due("no other name", x.closest(), -1);
        Check.learn(x, 2, hook(1, 0));
        Check.due("the lowest one", x.closest(), 2);
        Check.learn(x, 3, hook(3, 0));
        Check.due("the nearest ones", x.closest(), 203);
        Check.learn(x, 4, hook(5, 0));
        Check.due("the smallest number", x.closest(), 203);
        Check.learn(x, 5, hook(5, 1));
        Check.due("the last two", x.closest(), 405);
    }

    private static void readByOthers() {
        RuledStrokes x = new RuledStrokes();
        Check.due("no samples", x.byOthers(), 0);
        Check.learn(x, 1, hook(4, 0));
        Check.due("one sample", x.byOthers(), 0);
        Check.learn(x, 1, hook(5, 0));
        Check.due("two with the same name", x.byOthers(), 2);
        Check.learn(x, 2, hook(0, 4));
        Check.due("a third that is alone", x.byOthers(), 2);
        Check.learn(x, 2, hook(0, 5));
        Check.due("two and two", x.byOthers(), 4);
        x.set(2, 6);
        Check.due("margin 6", x.byOthers(), 4);
        x.set(2, 7);
        Check.due("margin 7", x.byOthers(), 2);
        x.set(2, 9);
        Check.due("margin 9", x.byOthers(), 0);
        x.set(2, 1);
        x.set(1, 1);
        Check.due("all strange by the limit 1", x.byOthers(), 0);
        x.set(1, 2);
        Check.due("none strange by the limit 2", x.byOthers(), 4);
        x.draw();
        Check.due("whatever is at hand", x.byOthers(), 4);
    }

    private static void bestRulings() {
        RuledStrokes x = new RuledStrokes();
        Check.due("no samples", x.bestRuling(), -1);
        Check.learn(x, 1, "0,0-19,0");
        Check.due("one sample", x.bestRuling(), -1);
        Check.learn(x, 1, "0,0");
        Check.due("no other name", x.bestRuling(), -1);
        x.forget(1);
        Check.learn(x, 2, "0,0-0,19");
        Check.due("the finest parts best", x.bestRuling(), 5);
        RuledStrokes y = new RuledStrokes();
        y.set(0, 6);
        Check.learn(y, 1, "0,0");
        Check.learn(y, 2, "11,0-14,0");
        Check.due("6 and 7 part them", y.bestRuling(), 6);
        y.set(0, 7);
        y.forget(0);
        Check.learn(y, 1, "7,0-6,0");
        Check.due("7 alone parts them by more than 2", y.bestRuling(), 7);
        RuledStrokes z = new RuledStrokes();
        Check.learn(z, 1, "0,0-15,0");
        Check.learn(z, 2, "0,0");
        z.set(0, 20);
        Check.due("the same signature now", z.between(0, 1), 0);
        Check.due("5, 6 and 7 are better", z.bestRuling(), 5);
    }

    private static void rulingsThatDoNotCount() {
        RuledStrokes x = new RuledStrokes();
        Check.learn(x, 1, "0,0-60,60-0,0-60,0");
        Check.learn(x, 2, "5,5");
        Check.due("5 and 6 do not count", x.bestRuling(), 7);
        x.forget(1);
        Check.learn(x, 2, "1,1-1,1");
        Check.draw(x, "0,0-60,60-0,0-60,60-60,20");
        Check.due("the figure at hand is no sample", x.bestRuling(), 7);
        RuledStrokes y = new RuledStrokes();
        y.set(0, 20);
        Check.learn(y, 1, "0,0-60,60-0,0-60,60-0,0-60,60-0,0");
        Check.learn(y, 2, "1,1");
        Check.due("by 10 there would be 72", y.bestRuling(), 16);
        RuledStrokes z = new RuledStrokes();
        z.set(0, 20);
        Check.learn(z, 1, "1,1");
        Check.learn(z, 2, "0,0-59,59-0,0-59,59-0,0-59,59-0,0-59,59");
        Check.due("by 19 there would be 42", z.bestRuling(), 20);
    }

    private static void mirroredFigures() {
        RuledStrokes x = new RuledStrokes();
        Check.due("no samples", x.mirrored(), -1);
        Check.learn(x, 0, "5,5-45,5");
        Check.learn(x, 3, "45,5-5,5");
        Check.learn(x, 4, "5,5-5,35");
        Check.due("no strokes", x.mirrored(), 4);
        Check.draw(x, "5,5-45,5");
        Check.due("read", x.read(1), 0);
        Check.due("mirrored", x.mirrored(), 3);
        Check.draw(x, "5,5-25,45");
        Check.due("read when it is mirrored", x.mirrored(), 4);
        x.set(1, 1);
        Check.due("strange when it is mirrored", x.mirrored(), -1);
        Check.draw(x, "10,5-9,5");
        Check.dueSigns("10 to 9", x, "2");
        x.learn(5);
        Check.draw(x, "10,5-9,5");
        Check.due("50 to 51 crosses no line", x.mirrored(), -1);
        Check.draw(x, "51,5-49,5");
        Check.due("9 to 11 crosses one to the right", x.mirrored(), -1);
        Check.draw(x, "49,5-51,5");
        Check.due("11 to 9 crosses one to the left", x.mirrored(), 5);
        tooManyWhenMirrored();
    }

    private static void tooManyWhenMirrored() {
        RuledStrokes x = new RuledStrokes();
        x.set(1, 99);
        String wide = "0,0-59,0-0,0-59,0-0,0-59,0-0,0-59,0-0,0";
        Check.learn(x, 1, wide);
        Check.due("40 signs", Check.draw(x, wide), 40);
        Check.due("read", x.read(1), 1);
        Check.due("48 signs when it is mirrored", x.mirrored(), -1);
        Check.due("40 signs still", x.about(3), 40);
        Check.draw(x, "0,0-59,0-0,0-59,0-0,0-59,0");
        Check.due("36 signs when it is mirrored", x.mirrored(), 1);
    }

    /** A sample that was forgotten counts nowhere, though it was the last one. */
    private static void forgottenOnes() {
        RuledStrokes x = new RuledStrokes();
        Check.learn(x, 1, hook(5, 0));
        Check.learn(x, 1, hook(4, 0));
        Check.learn(x, 2, "0,0-60,60-0,0-60,60");
        Check.learn(x, 1, hook(3, 0));
        x.forget(3);
        Check.due("byOthers", x.byOthers(), 2);
        x.forget(2);
        Check.due("byOthers", x.byOthers(), 2);
        Check.due("closest", x.closest(), -1);
        Check.due("bestRuling", x.bestRuling(), -1);
        Check.draw(x, hook(3, 0));
        dueRead("near to the second", x, 0, 1, 2, 1);
        Check.due("nearest(1)", x.nearest(1), 4);
        Check.refused("nearest(2)", Check.INDEX, () -> x.nearest(2));
        Check.due("it does not forbid a ruling", x.set(0, 5), 10);
    }

    private static void nothingChanges() {
        RuledStrokes x = new RuledStrokes();
        Check.learn(x, 0, "5,5-45,5");
        Check.learn(x, 3, "45,5-5,5");
        x.point(5, 5);
        x.point(55, 5);
        x.read(0);
        x.nearest(1);
        x.between(0, 1);
        x.closest();
        x.byOthers();
        x.bestRuling();
        x.mirrored();
        x.runScript(3, 400002000050020L);
        x.simulate(7, 99);
        Check.due("signs", x.about(3), 5);
        Check.due("goes on", x.about(2), 1);
        Check.due("samples", x.about(4), 2);
        Check.due("ruling", x.setting(0), 10);
        Check.dueSignsOf("sample 0", x, 0, "0000");
        Check.due("no practice", x.about(5), 0);
        Check.due("only actions are remembered", x.undo(), 5);
    }
}
