/** The sections FIGURES, SIGNATURES, DISTANCES and READING of the document, and what it is. */
public final class TermsTest {
    public static void main(String[] args) {
        manyCalls();
        strokesAndPoints();
        figureAtHand();
        samplesAndNames();
        ruledGrid();
        columnsAndRows();
        signsOfLines();
        orderOfSigns();
        everyWay();
        strokesOneBehindTheOther();
        fortySigns();
        costs();
        leastCosts();
        nearestSample();
        strange();
        tie();
        readAsName();
        settings();
        nothing();
        Check.end();
    }

    private static void manyCalls() {
        Check.says("What it is", "An object is used for at most 512 calls after it has been made; what "
                + "later calls answer is free.");
        RuledStrokes x = new RuledStrokes();
        for (int call = 1; call <= 511; call++) {
            Check.due("call " + call, x.set(1, call % 100), call == 1 ? 12 : (call - 1) % 100);
        }
        Check.due("call 512", x.undo(), 13);
        RuledStrokes y = new RuledStrokes();
        for (int call = 1; call <= 510; call += 2) {
            y.point(call % 61, 60);
            Check.due("practise, call " + (call + 1), y.practise(9), 1);
        }
        Check.due("call 511", y.about(5), 255);
        Check.due("call 512", y.practised(9, 1), 255);
    }

    private static void strokesAndPoints() {
        Check.says("FIGURES", "A figure is 0 to 3 strokes; a stroke is a row of 1 to 12 points, each with "
                + "x and y from 0 to 60 (x to the right, y downwards).");
        RuledStrokes x = new RuledStrokes();
        Check.due("0 strokes", x.about(0), 0);
        for (int stroke = 1; stroke <= 3; stroke++) {
            for (int i = 1; i <= 12; i++) {
                x.point(5, 5);
                Check.due("strokes", x.about(0), stroke);
                Check.due("points", x.about(1), 12 * (stroke - 1) + i);
            }
            Check.refused("a 13th point", Check.STATE, () -> x.point(5, 5));
            x.lift();
        }
        Check.refused("a 4th stroke", Check.STATE, () -> x.point(5, 5));
        RuledStrokes y = new RuledStrokes();
        Check.due("the upper left corner", y.point(0, 0), 0);
        Check.due("the upper right corner", y.point(60, 0), 6);
        Check.due("the lower right corner", y.point(60, 60), 12);
        Check.due("the lower left corner", y.point(0, 60), 18);
        Check.dueSigns("x to the right, y downwards", y, "000000" + "111111" + "222222");
        Check.refused("x too small", Check.ARGUMENT, () -> y.point(-1, 60));
        Check.refused("x too large", Check.ARGUMENT, () -> y.point(61, 60));
        Check.refused("y too small", Check.ARGUMENT, () -> y.point(0, -1));
        Check.refused("y too large", Check.ARGUMENT, () -> y.point(0, 61));
    }

    private static void figureAtHand() {
        Check.says("FIGURES", "There is one figure at hand, at first without strokes.");
        RuledStrokes x = new RuledStrokes();
        Check.dueAbout("at first", x, 0, 0, 0, 0);
        Scenes.draw(x, Scenes.figure("00401"));
        Scenes.draw(x, Scenes.figure("1"));
        Check.dueAbout("one figure", x, 1, 2, 0, 1);
    }

    private static void samplesAndNames() {
        Check.says("FIGURES", "Samples are figures, too, each with a name from 0 to 9; there are at most 16, "
                + "numbered from 0 in the order in which they were learned; if one is forgotten, those behind "
                + "it get numbers that are smaller by 1.");
        RuledStrokes x = Scenes.withSamples(16);
        dueSamples("16 samples", x, 0, 1, 2, 3, 4, 5, 6, 7, 8, 9, 10, 11, 12, 13, 14, 15);
        x.point(5, 55);
        for (int name = 0; name <= 9; name++) {
            int as = name;
            Check.refused("a 17th sample", Check.STATE, () -> x.learn(as));
        }
        Check.refused("name -1", Check.ARGUMENT, () -> x.learn(-1));
        Check.refused("name 10", Check.ARGUMENT, () -> x.learn(10));
        x.forget(15);
        dueSamples("without the last", x, 0, 1, 2, 3, 4, 5, 6, 7, 8, 9, 10, 11, 12, 13, 14);
        RuledStrokes y = Scenes.withSamples(16);
        y.forget(0);
        dueSamples("without the first", y, 1, 2, 3, 4, 5, 6, 7, 8, 9, 10, 11, 12, 13, 14, 15);
        RuledStrokes z = Scenes.withSamples(16);
        z.forget(7);
        z.forget(7);
        dueSamples("without two", z, 0, 1, 2, 3, 4, 5, 6, 9, 10, 11, 12, 13, 14, 15);
    }

    /** The samples of Scenes.withSamples that are left. */
    private static void dueSamples(String what, RuledStrokes x, int... left) {
        Check.due(what, x.about(4), left.length);
        for (int s = 0; s < left.length; s++) {
            Check.due(what + ": name of " + s, x.sample(s, 0), left[s] % 10);
            Check.dueSignsOf(what + ": signs of " + s, x, s, Scenes.signsOfSample(left[s]));
        }
        Check.refused(what + ": no more", Check.INDEX, () -> x.sample(left.length, 0));
    }

    private static void ruledGrid() {
        Check.says("SIGNATURES", "The grid is ruled by a distance d, 5 to 20, at first 10: there are lines at "
                + "x = k * d, and at y = k * d, for each k.");
        RuledStrokes x = new RuledStrokes();
        Check.due("at first", x.setting(0), 10);
        dueLines(new RuledStrokes(), 10);
        for (int d = 5; d <= 20; d++) {
            RuledStrokes y = new RuledStrokes();
            y.set(0, d);
            dueLines(y, d);
        }
        Check.refused("4", Check.ARGUMENT, () -> x.set(0, 4));
        Check.refused("21", Check.ARGUMENT, () -> x.set(0, 21));
    }

    /** Steps by 1, a line being crossed exactly when it is reached. */
    private static void dueLines(RuledStrokes x, int d) {
        for (int k = 1; k <= 60; k++) {
            int want = k % d == 0 ? 1 : 0;
            x.point(k - 1, 3);
            Check.due("to x = " + k + " by " + d, x.point(k, 3), want);
            x.practise(0);
            x.point(3, k - 1);
            Check.due("to y = " + k + " by " + d, x.point(3, k), want);
            x.practise(0);
        }
    }

    private static void columnsAndRows() {
        Check.says("SIGNATURES", "A point belongs to the column x / d and the row y / d (rounded down).");
        for (int d = 5; d <= 20; d++) {
            for (int k = 0; k <= 60; k++) {
                RuledStrokes x = new RuledStrokes();
                x.set(0, d);
                x.point(0, 0);
                Check.due("to column x = " + k + " by " + d, x.point(k, 0), k / d);
                Check.due("and back", x.point(0, 0), 2 * (k / d));
                Check.due("to row y = " + k + " by " + d, x.point(0, k), 3 * (k / d));
            }
        }
    }

    /** The signs of the figure of the text by the ruling, at hand and as a sample. */
    private static void dueFigure(int ruling, String text, String want) {
        RuledStrokes x = new RuledStrokes();
        x.set(0, ruling);
        Check.due(text + " by " + ruling, Scenes.draw(x, text), want.length());
        Check.dueSigns(text + " by " + ruling, x, want);
        x.learn(0);
        Check.dueSignsOf(text + " by " + ruling, x, 0, want);
    }

    private static void signsOfLines() {
        Check.says("SIGNATURES", "When a stroke goes straight from a point to the next one, it crosses a line "
                + "for each column and each row by which it goes on: it makes the sign 0 for a column to the "
                + "right, 2 for one to the left, 1 for a row downwards, 3 for one upwards, at the place where "
                + "x, or y, has the value of the line.");
        dueFigure(10, "5,5-45,5", "0000");
        dueFigure(10, "45,5-5,5", "2222");
        dueFigure(10, "5,5-5,45", "1111");
        dueFigure(10, "5,45-5,5", "3333");
        dueFigure(10, "5,5", "");
        dueFigure(10, "5,5-5,5", "");
        dueFigure(10, "0,0-9,9", "");
        dueFigure(10, "9,5-10,5", "0");
        dueFigure(10, "10,5-9,5", "2");
        dueFigure(10, "10,5-19,5", "");
        dueFigure(10, "19,5-10,5", "");
        dueFigure(10, "20,5-10,5", "2");
        dueFigure(10, "10,5-20,5", "0");
        dueFigure(10, "5,9-5,10", "1");
        dueFigure(10, "5,20-5,10-5,9", "33");
        dueFigure(10, "0,0-60,0", "000000");
        dueFigure(10, "60,60-60,0", "333333");
        dueFigure(5, "0,0-60,0", "000000000000");
        dueFigure(20, "0,0-60,0", "000");
        dueFigure(20, "0,59-0,0", "33");
        dueFigure(13, "0,0-60,0", "0000");
        dueFigure(7, "6,13-7,14", "01");
        dueFigure(10, "5,5-15,5-15,15-5,15-5,5", "0123");
        dueFigure(10, "42,3-2,43", "21212121");
        dueFigure(10, "48,5-8,45", "12121212");
        dueFigure(10, "3,42-43,2", "30303030");
        dueFigure(10, "5,48-45,8", "03030303");
        dueFigure(10, "42,43-2,3", "23232323");
        dueFigure(10, "43,42-3,2", "32323232");
    }

    private static void orderOfSigns() {
        Check.says("SIGNATURES", "The signs of a way between two points are in the order of these places, from "
                + "the first point on; of two at the same place that of the column is first.");
        dueFigure(10, "5,5-25,45", "101101");
        dueFigure(10, "25,45-5,5", "323323");
        dueFigure(10, "5,5-45,25", "010010");
        dueFigure(10, "45,25-5,5", "232232");
        dueFigure(10, "8,9-11,11", "10");
        dueFigure(10, "9,8-11,11", "01");
        dueFigure(10, "29,0-30,60", "1111101");
        dueFigure(10, "31,60-30,0", "333333");
        dueFigure(10, "30,60-29,0", "2333333");
        Check.says("SIGNATURES", "of two at the same place that of the column is first.");
        dueFigure(10, "5,5-45,45", "01010101");
        dueFigure(10, "45,45-5,5", "23232323");
        dueFigure(10, "45,5-5,45", "21212121");
        dueFigure(10, "5,45-45,5", "03030303");
        dueFigure(10, "9,9-10,10", "01");
        dueFigure(10, "10,10-9,9", "23");
        dueFigure(10, "10,9-9,10", "21");
        dueFigure(10, "9,10-10,9", "30");
        dueFigure(10, "20,10-19,20", "21");
        dueFigure(10, "19,20-20,10", "30");
        dueFigure(10, "0,0-60,20", "00010001");
        dueFigure(10, "0,0-20,60", "11011101");
        dueFigure(7, "1,1-13,13", "01");
        dueFigure(20, "0,60-60,0", "303030");
    }

    /** All ways between points on and beside lines, against places that are sorted. */
    private static void everyWay() {
        Check.says("SIGNATURES", "The signs of a way between two points are in the order of these places");
        int[] on = {0, 1, 9, 10, 11, 20, 29, 30, 40, 59, 60};
        for (int d = 5; d <= 20; d++) {
            for (int x : on) {
                for (int y : on) {
                    for (int toX : on) {
                        waysTo(d, x, y, toX, on);
                    }
                }
            }
        }
    }

    private static void waysTo(int d, int x, int y, int toX, int[] on) {
        RuledStrokes strokes = new RuledStrokes();
        strokes.set(0, d);
        for (int toY : on) {
            strokes.point(x, y);
            strokes.point(toX, toY);
            Check.dueSigns(x + "," + y + "-" + toX + "," + toY + " by " + d, strokes,
                    PlainModel.signsOfWay(x, y, toX, toY, d));
            strokes.practise(0);
        }
    }

    private static void strokesOneBehindTheOther() {
        Check.says("SIGNATURES", "The signature of a figure is made of the signs of all its strokes, one behind "
                + "the other, with the sign 4 between two strokes.");
        RuledStrokes x = new RuledStrokes();
        Check.dueSigns("no strokes", x, "");
        dueFigure(10, "5,5", "");
        dueFigure(10, "5,5/5,5", "4");
        dueFigure(10, "5,5/55,55/5,55", "44");
        dueFigure(10, "5,5-15,5/15,15-5,15/5,5-5,15", "04241");
        dueFigure(10, "5,5-15,5/1,1", "04");
        dueFigure(10, "1,1/15,5-5,5", "42");
        dueFigure(10, "5,5-15,5/1,1/5,15-5,5", "0443");
        dueFigure(10, "5,5-15,5-25,5/5,5-5,15-5,25", "00411");
    }

    private static void fortySigns() {
        Check.says("SIGNATURES", "It may have at most 40 signs.");
        RuledStrokes x = new RuledStrokes();
        for (int i = 0; i < 4; i++) {
            x.point(i % 2 * 60, i % 2 * 60);
        }
        Check.refused("41 by a point", Check.STATE, () -> x.point(60, 19));
        Check.due("40 by a point", x.point(60, 20), 40);
        x.lift();
        Check.refused("41 by the sign 4", Check.STATE, () -> x.point(0, 0));
        RuledStrokes y = new RuledStrokes();
        Check.due("40 by draw", Scenes.draw(y, Scenes.FORTY), 40);
        Check.refused("41 by draw", Check.STATE, () -> Scenes.draw(y, Scenes.FORTY + "/0,0"));
        Check.due("40 by another ruling", y.set(0, 9), 10);
        Check.refused("47 by another ruling", Check.STATE, () -> y.set(0, 8));
        y.learn(0);
        Check.due("40 of a sample", y.sample(0, 3), 40);
    }

    /** Their distance, from the first one to the other and back. */
    private static void dueDistance(String one, String other, int want) {
        RuledStrokes x = new RuledStrokes();
        Scenes.learn(x, 1, Scenes.figure(one));
        Scenes.learn(x, 1, Scenes.figure(other));
        Check.due("between '" + one + "' and '" + other + "'", x.between(0, 1), want);
        Check.due("between '" + other + "' and '" + one + "'", x.between(1, 0), want);
        Check.due("between '" + other + "' and itself", x.between(1, 1), 0);
    }

    private static void costs() {
        Check.says("DISTANCES", "to take a sign out, or to put one in, costs 2, or 3 for the sign 4; to put a "
                + "sign in place of another one costs 2, or 3 if they are opposite (0 and 2, or 1 and 3), or 5 "
                + "if one of both is 4.");
        int[] alone = {2, 2, 2, 2, 3};
        int[][] instead = {{0, 2, 3, 2, 5}, {2, 0, 2, 3, 5}, {3, 2, 0, 2, 5}, {2, 3, 2, 0, 5}, {5, 5, 5, 5, 0}};
        for (int a = 0; a < 5; a++) {
            dueDistance("", String.valueOf(a), alone[a]);
            for (int b = 0; b < 5; b++) {
                dueDistance(String.valueOf(a), String.valueOf(b), instead[a][b]);
            }
        }
    }

    private static void leastCosts() {
        Check.says("DISTANCES", "The distance of two signatures is the least that it costs to make the one of "
                + "the other: to take a sign out, or to put one in, costs 2, or 3 for the sign 4; to put a sign "
                + "in place of another one costs 2, or 3 if they are opposite (0 and 2, or 1 and 3), or 5 if one "
                + "of both is 4.");
        dueDistance("", "", 0);
        dueDistance("", "44", 6);
        dueDistance("4", "44", 3);
        dueDistance("", "00440", 12);
        dueDistance("0000", "1111", 8);
        dueDistance("0000", "2222", 12);
        dueDistance("0022", "2200", 8);
        dueDistance("02", "20", 4);
        dueDistance("13", "31", 4);
        dueDistance("01", "10", 4);
        dueDistance("041", "140", 4);
        dueDistance("004", "400", 6);
        dueDistance("0123", "123", 2);
        dueDistance("0123", "012", 2);
        dueDistance("0123", "013", 2);
        dueDistance("0123", "3012", 4);
        dueDistance("0123", "2301", 8);
        dueDistance("00000", "3", 10);
        dueDistance("00000", "0", 8);
        dueDistance("0404", "4040", 4);
        dueDistance("004114", "00114", 3);
        dueDistance("00000", "00400", 5);
        dueDistance("00000", "04040", 10);
        RuledStrokes x = new RuledStrokes();
        Scenes.learn(x, 1, Scenes.FORTY);
        Scenes.learn(x, 1, "5,5");
        Check.due("40 signs to take out", x.between(0, 1), 80);
        Check.due("40 signs to put in", x.between(1, 0), 80);
        Scenes.learn(x, 1, "60,60-0,0-60,60-0,0-0,40");
        Check.due("12 signs to take out, 12 to put in", x.between(0, 2), 48);
    }

    private static void nearestSample() {
        Check.says("READING", "A figure is read by the samples like this: the nearest sample is the one whose "
                + "signature has the least distance to its own, of several the lowest one.");
        RuledStrokes x = new RuledStrokes();
        Scenes.learn(x, 1, Scenes.figure("00000"));
        Scenes.learn(x, 1, Scenes.figure("00"));
        Scenes.learn(x, 1, Scenes.figure("0000"));
        Scenes.draw(x, Scenes.figure("000"));
        Check.dueRead("of two like ones the lowest", x, 0, 1, 2, 1);
        Scenes.draw(x, Scenes.figure("0000"));
        Check.dueRead("the last", x, 0, 1, 0, 2);
        Scenes.draw(x, Scenes.figure("000001"));
        Check.dueRead("the first", x, 0, 1, 2, 0);
        Scenes.learn(x, 1, Scenes.figure("00000"));
        Scenes.draw(x, Scenes.figure("00000"));
        Check.dueRead("of the same figures the lowest", x, 0, 1, 0, 0);
        x.forget(0);
        Check.dueRead("the other one", x, 0, 1, 0, 2);
        RuledStrokes y = Scenes.withSamples(16);
        Scenes.draw(y, Scenes.figure("000111"));
        Check.dueRead("the 16th", y, 0, 5, 0, 15);
    }

    private static void strange() {
        Check.says("READING", "If there is no sample, or if this distance is above the limit, the figure is "
                + "strange (2).");
        RuledStrokes x = new RuledStrokes();
        Check.dueRead("no sample", x, 2, -1, -1, -1);
        x.point(5, 5);
        x.set(1, 99);
        Check.dueRead("no sample, with a stroke", x, 2, -1, -1, -1);
        for (int cost = 0; cost <= 21; cost++) {
            if (cost != 1) {
                strangeAbove(cost);
            }
        }
    }

    private static void strangeAbove(int cost) {
        RuledStrokes x = new RuledStrokes();
        Scenes.learn(x, 5, "5,5");
        Scenes.draw(x, Scenes.figure(Scenes.costing(cost)));
        Check.dueRead("distance " + cost + ", limit 12", x, cost > 12 ? 2 : 0, cost > 12 ? -1 : 5, cost, 0);
        for (int limit = 0; limit <= 99; limit++) {
            x.set(1, limit);
            String what = "distance " + cost + ", limit " + limit;
            Check.due(what, x.read(0), cost > limit ? 2 : 0);
            Check.due(what + ": name", x.read(1), cost > limit ? -1 : 5);
        }
    }

    private static void tie() {
        Check.says("READING", "Otherwise, if some sample with another name has a distance less than this one plus "
                + "the margin, it is a tie (1).");
        for (int more = 1; more <= 21; more++) {
            tieBelow(more, false);
            tieBelow(more, true);
        }
        RuledStrokes x = new RuledStrokes();
        Scenes.learn(x, 1, Scenes.figure("0"));
        Scenes.learn(x, 1, Scenes.figure("000"));
        Scenes.draw(x, Scenes.figure("00"));
        x.set(2, 20);
        Check.dueRead("like ones with the same name", x, 0, 1, 2, 0);
        Scenes.learn(x, 8, Scenes.figure("001"));
        Scenes.draw(x, Scenes.figure("00"));
        x.set(2, 1);
        Check.dueRead("like ones with other names", x, 1, -1, 2, 0);
        x.set(1, 1);
        Check.dueRead("strange comes first", x, 2, -1, 2, 0);
        RuledStrokes y = new RuledStrokes();
        Scenes.learn(y, 1, Scenes.figure("00"));
        Scenes.learn(y, 2, Scenes.figure("0000"));
        Scenes.draw(y, Scenes.figure("00"));
        y.set(1, 0);
        y.set(2, 5);
        Check.dueRead("the other one may be above the limit", y, 1, -1, 0, 0);
    }

    /** The nearest has the distance 2, and the other one so much more; either may be the lower. */
    private static void tieBelow(int more, boolean nearestIsLast) {
        RuledStrokes x = new RuledStrokes();
        String[] signs = {"0", Scenes.costing(2 + more)};
        int nearest = nearestIsLast ? 1 : 0;
        Scenes.learn(x, 6, Scenes.figure(signs[nearest]));
        Scenes.learn(x, 7, Scenes.figure(signs[1 - nearest]));
        Check.due("the nearest", x.nearest(0), 1000 * nearest + 2);
        for (int margin = 1; margin <= 20; margin++) {
            x.set(2, margin);
            boolean isTie = 2 + more < 2 + margin;
            Check.dueRead("2 and " + (2 + more) + " by the margin " + margin, x,
                    isTie ? 1 : 0, isTie ? -1 : 6 + nearest, 2, nearest);
        }
    }

    private static void readAsName() {
        Check.says("READING", "Otherwise it is read as the name of the nearest sample (0).");
        for (int name = 0; name <= 9; name++) {
            RuledStrokes x = new RuledStrokes();
            Scenes.learn(x, (name + 1) % 10, Scenes.figure("1111"));
            Scenes.learn(x, name, Scenes.figure("0000"));
            Scenes.draw(x, Scenes.figure("00001"));
            Check.dueRead("name " + name, x, 0, name, 2, 1);
        }
    }

    private static void settings() {
        Check.says("READING", "There are settings: 0: the ruling d, 5 to 20; 1: the limit, 0 to 99, at first 12; "
                + "2: the margin, 1 to 20, at first 1.");
        int[][] ranges = {{5, 20, 10}, {0, 99, 12}, {1, 20, 1}};
        for (int what = 0; what < 3; what++) {
            RuledStrokes x = new RuledStrokes();
            int least = ranges[what][0];
            int greatest = ranges[what][1];
            int set = what;
            Check.due("at first", x.setting(what), ranges[what][2]);
            for (int v = least; v <= greatest; v++) {
                x.set(what, v);
                Check.due("setting " + what, x.setting(what), v);
            }
            for (int v : new int[] {least - 1, greatest + 1, Integer.MIN_VALUE, Integer.MAX_VALUE}) {
                Check.refused("set(" + what + ", " + v + ")", Check.ARGUMENT, () -> x.set(set, v));
            }
            Check.due("still", x.setting(what), greatest);
        }
    }

    private static void nothing() {
        Check.says("Constants", "`NONE = -1`: There is no such result.");
        Check.due("NONE", RuledStrokes.NONE, -1);
    }
}
