import java.util.Random;

/** Promises 19 to 25: reading, distances, mixed up samples, rulings, the mirrored figure. */
public final class WouldBeTest {
    public static void main(String[] args) {
        nothingChanges();
        read();
        readNumbers();
        readRefused();
        nearest();
        nearestOfLikeOnes();
        nearestReturns();
        nearestRefused();
        between();
        betweenRefused();
        closest();
        closestOrNone();
        byOthers();
        byOthersLimits();
        bestRuling();
        bestRulingOfSeveral();
        bestRulingBySettingEach();
        rulingsThatDoNotCount();
        noBestRuling();
        mirrored();
        mirroredReturns();
        mirroredOrNone();
        Check.end();
    }

    private static void nothingChanges() {
        Check.says("Constants", "Ahead of the calls `read`, `nearest`, `between`, `closest`, `byOthers`, `bestRuling`, "
                + "`mirrored` the interface says: ---- what would be; these and all following methods up to the save "
                + "slots change nothing.");
        String untouched = Scenes.all(Scenes.used());
        RuledStrokes x = Scenes.used();
        x.read(0);
        x.read(3);
        Check.same("read", Scenes.all(x), untouched);
        x = Scenes.used();
        x.nearest(2);
        Check.same("nearest", Scenes.all(x), untouched);
        x = Scenes.used();
        x.between(0, 2);
        Check.same("between", Scenes.all(x), untouched);
        x = Scenes.used();
        x.closest();
        Check.same("closest", Scenes.all(x), untouched);
        x = Scenes.used();
        x.byOthers();
        Check.same("byOthers", Scenes.all(x), untouched);
        x = Scenes.used();
        x.bestRuling();
        Check.same("bestRuling", Scenes.all(x), untouched);
        x = Scenes.used();
        x.mirrored();
        Check.same("mirrored", Scenes.all(x), untouched);
        x = Scenes.used();
        x.runScript(3, 105053300040000L);
        x.runScript(3, 930005002052005L);
        x.runScript(3, 200005109910505L);
        Check.same("runScript", Scenes.all(x), untouched);
        x = Scenes.used();
        for (long seed = 0; seed < 9; seed++) {
            x.simulate(seed, 99);
        }
        Check.same("simulate", Scenes.all(x), untouched);
    }

    private static void read() {
        Check.says("Promise 19", "Tells what the figure at hand is read as (with or without strokes).");
        RuledStrokes x = new RuledStrokes();
        Check.dueRead("without strokes or samples", x, 2, -1, -1, -1);
        Scenes.learn(x, 5, Scenes.figure("0000"));
        Check.dueRead("without strokes", x, 0, 5, 8, 0);
        Scenes.learn(x, 6, "5,5");
        Check.dueRead("without strokes, like a point", x, 0, 6, 0, 1);
        x.point(5, 5);
        Check.dueRead("with a point that goes on", x, 0, 6, 0, 1);
        x.point(45, 5);
        Check.dueRead("with two points", x, 0, 5, 0, 0);
        x.lift();
        Check.dueRead("lifted", x, 0, 5, 0, 0);
        x.practise(5);
        Scenes.learn(x, 7, Scenes.figure("1111"));
        x.set(1, 0);
        Check.dueRead("without strokes again", x, 0, 6, 0, 1);
        x.forget(1);
        x.set(1, 12);
        Check.dueRead("without strokes, a tie", x, 1, -1, 8, 0);
    }

    private static void readNumbers() {
        Check.says("Promise 19", "`what`: 0: 0 if it is read, 1 if it is a tie, 2 if it is strange; 1: the name that "
                + "it is read as, NONE if it is not; 2: the distance of the nearest sample, NONE without samples; "
                + "3: the nearest sample, NONE without samples");
        Check.says("Promise 19", "Returns that number.");
        RuledStrokes x = Scenes.two();
        Check.dueRead("read", x, 0, 3, 2, 0);
        x.set(2, 7);
        Check.dueRead("a tie", x, 1, -1, 2, 0);
        x.set(1, 1);
        Check.dueRead("strange", x, 2, -1, 2, 0);
        Scenes.draw(x, Scenes.figure("1111"));
        Check.dueRead("the other one", x, 0, 7, 0, 1);
        x.forget(0);
        x.forget(0);
        Check.dueRead("no samples", x, 2, -1, -1, -1);
        RuledStrokes y = new RuledStrokes();
        Scenes.learn(y, 0, "5,5");
        Scenes.draw(y, Scenes.FORTY);
        Check.dueRead("far", y, 2, -1, 80, 0);
        y.set(1, 99);
        Check.dueRead("far, by the limit 99", y, 0, 0, 80, 0);
    }

    private static void readRefused() {
        Check.says("Promise 19", "Throws `IllegalArgumentException` if what is not 0 to 3");
        for (int what : new int[] {-1, 4, Integer.MIN_VALUE, Integer.MAX_VALUE}) {
            Check.refused("read(" + what + ")", Check.ARGUMENT, () -> Scenes.two().read(what));
            Check.refused("without samples", Check.ARGUMENT, () -> new RuledStrokes().read(what));
        }
    }

    private static void nearest() {
        Check.says("Promise 20", "Returns a sample by its distance from the figure at hand.");
        RuledStrokes x = new RuledStrokes();
        Scenes.learn(x, 1, Scenes.figure("00000"));
        Scenes.learn(x, 2, Scenes.figure("00"));
        Scenes.learn(x, 3, Scenes.figure("0004"));
        Scenes.draw(x, Scenes.figure("000"));
        Check.due("nearest(0)", x.nearest(0), 1002);
        Check.due("nearest(1)", x.nearest(1), 2003);
        Check.due("nearest(2)", x.nearest(2), 4);
        x.lift();
        x.point(5, 5);
        Check.due("of another figure: nearest(0)", x.nearest(0), 2000);
        x.learn(3);
        Check.due("without strokes: nearest(0)", x.nearest(0), 1004);
        Check.due("without strokes: nearest(1)", x.nearest(1), 2009);
        Check.due("without strokes: nearest(2)", x.nearest(2), 3009);
        Check.due("without strokes: nearest(3)", x.nearest(3), 10);
    }

    private static void nearestOfLikeOnes() {
        Check.says("Promise 20", "`k`: which one, from 0: the nearest first, of several like ones the lowest");
        RuledStrokes x = new RuledStrokes();
        String[] learned = {"00000", "00", "0000", "001", "000", "00", "11111"};
        for (String signs : learned) {
            Scenes.learn(x, 1, Scenes.figure(signs));
        }
        Scenes.draw(x, Scenes.figure("000"));
        int[] want = {4000, 1002, 2002, 3002, 5002, 4, 6010};
        for (int k = 0; k < want.length; k++) {
            Check.due("nearest(" + k + ")", x.nearest(k), want[k]);
        }
        RuledStrokes y = new RuledStrokes();
        for (int s = 0; s < 16; s++) {
            y.point(s, s);
            y.learn(0);
        }
        for (int k = 0; k < 16; k++) {
            Check.due("of 16 like ones: nearest(" + k + ")", y.nearest(k), 1000 * k);
        }
    }

    private static void nearestReturns() {
        Check.says("Promise 20", "Returns 1000 * (the sample) + (its distance).");
        RuledStrokes x = Scenes.withSamples(16);
        Scenes.draw(x, Scenes.figure("000111"));
        Check.due("the 16th", x.nearest(0), 15000);
        Check.due("the farthest", x.nearest(15), 12);
        RuledStrokes y = new RuledStrokes();
        Scenes.learn(y, 0, "5,5");
        Scenes.draw(y, Scenes.FORTY);
        Check.due("a distance of 80", y.nearest(0), 80);
        Scenes.learn(y, 1, "5,5-15,5");
        Check.due("without strokes", y.nearest(1), 1002);
    }

    private static void nearestRefused() {
        Check.says("Promise 20", "Throws `IndexOutOfBoundsException` if there are not so many samples");
        for (int k : new int[] {0, 1, -1, Integer.MIN_VALUE, Integer.MAX_VALUE}) {
            Check.refused("no samples: nearest(" + k + ")", Check.INDEX, () -> new RuledStrokes().nearest(k));
        }
        for (int samples = 1; samples <= 16; samples++) {
            RuledStrokes x = Scenes.withSamples(samples);
            int last = samples - 1;
            Check.due("nearest(" + last + ")", x.nearest(last) >= 0 ? 1 : 0, 1);
            for (int k : new int[] {samples, samples + 1, -1, Integer.MIN_VALUE, Integer.MAX_VALUE}) {
                Check.refused(samples + " samples: nearest(" + k + ")", Check.INDEX, () -> x.nearest(k));
            }
            x.forget(0);
            Check.refused("one is forgotten: nearest(" + last + ")", Check.INDEX, () -> x.nearest(last));
        }
    }

    private static void between() {
        Check.says("Promise 21", "Returns the distance of two samples.");
        Check.says("Promise 21", "Returns their distance.");
        Check.says("Promise 21", "`s`: sample");
        Check.says("Promise 21", "`t`: sample");
        RuledStrokes x = new RuledStrokes();
        String[] learned = {"", "0", "40", "2244", "0"};
        int[][] want = {{0, 2, 5, 10, 2}, {2, 0, 3, 11, 0}, {5, 3, 0, 9, 3}, {10, 11, 9, 0, 11}, {2, 0, 3, 11, 0}};
        for (int s = 0; s < 5; s++) {
            Scenes.learn(x, 1, Scenes.figure(learned[s]));
        }
        for (int s = 0; s < 5; s++) {
            for (int t = 0; t < 5; t++) {
                Check.due("between(" + s + ", " + t + ")", x.between(s, t), want[s][t]);
            }
        }
        RuledStrokes y = Scenes.withSamples(16);
        Check.due("between(0, 15)", y.between(0, 15), 12);
        Check.due("between(15, 0)", y.between(15, 0), 12);
        Check.due("between(15, 15)", y.between(15, 15), 0);
        y.set(0, 20);
        Check.due("by another ruling", y.between(0, 15), 4);
    }

    private static void betweenRefused() {
        Check.says("Promise 21", "Throws `IndexOutOfBoundsException` if there is no such sample");
        Check.refused("no samples", Check.INDEX, () -> new RuledStrokes().between(0, 0));
        for (int samples : new int[] {1, 2, 15, 16}) {
            RuledStrokes x = Scenes.withSamples(samples);
            for (int wrong : new int[] {-1, samples, samples + 1, Integer.MIN_VALUE, Integer.MAX_VALUE}) {
                Check.refused("between(0, " + wrong + ")", Check.INDEX, () -> x.between(0, wrong));
                Check.refused("between(" + wrong + ", 0)", Check.INDEX, () -> x.between(wrong, 0));
                Check.refused("between(" + wrong + ", both)", Check.INDEX, () -> x.between(wrong, wrong));
            }
            Check.due("the first and the last", x.between(0, samples - 1) >= 0 ? 1 : 0, 1);
        }
    }

    private static void closest() {
        Check.says("Promise 22", "Finds the samples that are mixed up most easily.");
        Check.says("Promise 22", "Returns 100 * s + t of the two samples s and t, s less than t, with different names "
                + "and the least distance, among several the smallest such number; NONE if there are no two with "
                + "different names.");
        RuledStrokes x = new RuledStrokes();
        Scenes.learn(x, 1, Scenes.figure("0000011111"));
        Scenes.learn(x, 1, Scenes.figure("0000011111"));
        Scenes.learn(x, 2, Scenes.figure("0"));
        Check.due("of two like numbers the smallest: 0 and 2, 1 and 2", x.closest(), 2);
        Scenes.learn(x, 3, Scenes.figure("000"));
        Check.due("the least distance", x.closest(), 203);
        Scenes.learn(x, 4, Scenes.figure("00000"));
        Check.due("of 2 and 3, 3 and 4 the smallest number", x.closest(), 203);
        Scenes.learn(x, 4, Scenes.figure("00011"));
        Check.due("still", x.closest(), 203);
        Scenes.learn(x, 5, Scenes.figure("000001"));
        Check.due("less", x.closest(), 406);
        x.set(0, 20);
        Check.due("with a distance of 0 by another ruling", x.closest(), 406);
        RuledStrokes y = Scenes.withSamples(16);
        Check.due("of many like ones", y.closest(), 1);
        RuledStrokes z = new RuledStrokes();
        for (int s = 0; s < 14; s++) {
            Scenes.learn(z, 1, "5,5");
        }
        Scenes.learn(z, 1, Scenes.figure("11111"));
        Scenes.learn(z, 2, Scenes.figure("1111"));
        Check.due("the last two of 16", z.closest(), 1415);
        RuledStrokes w = new RuledStrokes();
        w.set(0, 7);
        String[] learned = {"0,0-0,20", "0,0-0,10", "0,0-7,0", "0,0"};
        for (int s = 0; s < 4; s++) {
            Scenes.learn(w, s, learned[s]);
        }
        Check.due("by the ruling 7", w.closest(), 1);
        w.set(0, 10);
        Check.due("by the ruling 10, by which two are the same", w.closest(), 203);
    }

    private static void closestOrNone() {
        Check.says("Promise 22", "NONE if there are no two with different names.");
        RuledStrokes x = new RuledStrokes();
        Check.due("no samples", x.closest(), -1);
        Scenes.learn(x, 1, Scenes.figure("0"));
        Check.due("one sample", x.closest(), -1);
        Scenes.learn(x, 1, Scenes.figure("1"));
        Check.due("two with the same name", x.closest(), -1);
        x.point(5, 5);
        Check.due("a figure at hand is none of them", x.closest(), -1);
        x.learn(0);
        Check.due("another name", x.closest(), 2);
        x.forget(2);
        Check.due("which is forgotten", x.closest(), -1);
    }

    private static void byOthers() {
        Check.says("Promise 23", "Counts samples that would be read right by the others.");
        Check.says("Promise 23", "Returns how many samples would be read as their own name if they were at hand, each "
                + "by all samples but itself.");
        RuledStrokes x = new RuledStrokes();
        Check.due("no samples", x.byOthers(), 0);
        Scenes.learn(x, 1, Scenes.figure("0000"));
        Check.due("one sample", x.byOthers(), 0);
        Scenes.learn(x, 1, Scenes.figure("00000"));
        Check.due("two with the same name", x.byOthers(), 2);
        Scenes.learn(x, 2, Scenes.figure("1111"));
        Check.due("a third that is alone", x.byOthers(), 2);
        Scenes.learn(x, 2, Scenes.figure("11111"));
        Check.due("two and two", x.byOthers(), 4);
        Scenes.draw(x, Scenes.figure("0011"));
        Check.due("whatever is at hand", x.byOthers(), 4);
        RuledStrokes y = new RuledStrokes();
        Scenes.learn(y, 0, Scenes.figure("0"));
        Scenes.learn(y, 9, Scenes.figure("00"));
        Check.due("each is read as the other one", y.byOthers(), 0);
        Scenes.learn(y, 0, Scenes.figure("0"));
        Check.due("0 and 2 by one another", y.byOthers(), 2);
        Scenes.learn(y, 9, Scenes.figure("00"));
        Check.due("1 and 3, too", y.byOthers(), 4);
        RuledStrokes z = new RuledStrokes();
        for (int s = 0; s < 16; s++) {
            z.point(5, 5);
            z.learn(7);
        }
        Check.due("16 like ones", z.byOthers(), 16);
    }

    private static void byOthersLimits() {
        Check.says("Promise 23", "would be read as their own name");
        RuledStrokes x = new RuledStrokes();
        Scenes.learn(x, 1, Scenes.figure("0000"));
        Scenes.learn(x, 1, Scenes.figure("00000"));
        Scenes.learn(x, 2, Scenes.figure("1111"));
        Scenes.learn(x, 2, Scenes.figure("11111"));
        int[] rightByMargin = {4, 4, 4, 4, 4, 4, 2, 2, 0};
        for (int margin = 1; margin <= 9; margin++) {
            x.set(2, margin);
            Check.due("margin " + margin, x.byOthers(), rightByMargin[margin - 1]);
        }
        x.set(2, 1);
        x.set(1, 1);
        Check.due("all are strange by the limit 1", x.byOthers(), 0);
        x.set(1, 2);
        Check.due("none by the limit 2", x.byOthers(), 4);
        RuledStrokes y = new RuledStrokes();
        Scenes.learn(y, 3, Scenes.figure("00"));
        Scenes.learn(y, 3, Scenes.figure("0"));
        Scenes.learn(y, 4, Scenes.figure("000"));
        Check.due("0 is a tie, 1 is read right, 2 is read as another name", y.byOthers(), 1);
    }

    private static void bestRuling() {
        Check.says("Promise 24", "Finds the best ruling.");
        RuledStrokes x = new RuledStrokes();
        Scenes.learn(x, 1, "0,0-19,0");
        Scenes.learn(x, 2, "0,0-0,19");
        Check.due("the finest parts best", x.bestRuling(), 5);
        RuledStrokes y = new RuledStrokes();
        y.set(0, 6);
        Scenes.learn(y, 1, "0,0");
        Scenes.learn(y, 2, "11,0-14,0");
        Check.due("6 and 7 part them", y.bestRuling(), 6);
        y.set(0, 7);
        y.forget(0);
        Scenes.learn(y, 1, "7,0-6,0");
        Check.due("7 alone parts them by more than 2", y.bestRuling(), 7);
        RuledStrokes z = new RuledStrokes();
        z.set(0, 20);
        Scenes.learn(z, 1, "0,0-59,59-0,0-59,59-0,0-59,59-0,0-59,59-0,0-59,59");
        Scenes.learn(z, 2, "0,0");
        Check.due("20 alone counts", z.bestRuling(), 20);
    }

    private static void bestRulingOfSeveral() {
        Check.says("Promise 24", "among several the smallest one");
        RuledStrokes x = new RuledStrokes();
        Scenes.learn(x, 1, "0,0");
        Scenes.learn(x, 2, "59,0-60,0");
        Check.due("5, 6, 10, 12, 15 and 20 part them", x.bestRuling(), 5);
        x.set(0, 20);
        Check.due("whatever the ruling is", x.bestRuling(), 5);
        RuledStrokes y = new RuledStrokes();
        y.set(0, 6);
        Scenes.learn(y, 1, "0,0");
        Scenes.learn(y, 2, "11,0-12,0");
        y.set(0, 7);
        Scenes.learn(y, 2, "13,0-14,0");
        Check.due("none parts all of them: the least distance is 0 by each", y.bestRuling(), 5);
        RuledStrokes z = new RuledStrokes();
        z.set(0, 19);
        Scenes.learn(z, 1, "0,0");
        Scenes.learn(z, 2, "18,0-19,0");
        Check.due("19 alone parts them", z.bestRuling(), 19);
        RuledStrokes w = new RuledStrokes();
        w.set(0, 20);
        Scenes.learn(w, 1, "0,0");
        Scenes.learn(w, 2, "19,0-20,0");
        w.set(0, 10);
        Scenes.learn(w, 3, "19,0-20,0-19,0");
        Check.due("5, 10 and 20", w.bestRuling(), 5);
    }

    /** The same found by setting each ruling and looking at the closest samples. */
    private static void bestRulingBySettingEach() {
        Check.says("Promise 24", "Returns the ruling, 5 to 20, by which the least distance of two samples with "
                + "different names is greatest, among several the smallest one; rulings by which a sample would "
                + "have more than 40 signs do not count; NONE if there are no two with different names, or no "
                + "ruling counts.");
        Random random = new Random(24);
        boolean[] found = new boolean[21];
        for (int i = 0; i < 400; i++) {
            RuledStrokes x = new RuledStrokes();
            x.set(0, 5 + i % 16);
            for (int s = 0; s < 3; s++) {
                randomSample(x, random, 2 + i % 11, 1 + i % 31);
            }
            int best = x.bestRuling();
            Check.due("objects " + i, best, bestBySetting(x));
            found[Math.max(best, 0)] = true;
        }
        for (int ruling = 5; ruling <= 20; ruling++) {
            Check.due("the best one was " + ruling + " once", found[ruling] ? 1 : 0, 1);
        }
    }

    /** Its points lie near the corners, so that coarse rulings are the best ones, too. */
    private static void randomSample(RuledStrokes x, Random random, int points, int spread) {
        for (int p = 0; p < points; p++) {
            int toX = random.nextInt(2) * (61 - spread) + random.nextInt(spread);
            int toY = random.nextInt(2) * (61 - spread) + random.nextInt(spread);
            Scenes.outcome(() -> x.point(toX, toY));
        }
        for (int name = 0; name < 3 && x.about(0) > 0; name++) {
            int as = (x.about(4) + name) % 3;
            Scenes.outcome(() -> x.learn(as));
        }
    }

    private static int bestBySetting(RuledStrokes x) {
        int best = -1;
        int greatest = -1;
        for (int ruling = 5; ruling <= 20; ruling++) {
            int d = ruling;
            if (Scenes.isException(Scenes.outcome(() -> x.set(0, d)))) {
                continue;
            }
            int pair = x.closest();
            int least = pair < 0 ? -1 : x.between(pair / 100, pair % 100);
            if (least > greatest) {
                best = ruling;
                greatest = least;
            }
        }
        return best;
    }

    private static void rulingsThatDoNotCount() {
        Check.says("Promise 24", "rulings by which a sample would have more than 40 signs do not count");
        String forty = "0,0-60,60-0,0-60,0";
        RuledStrokes x = new RuledStrokes();
        Scenes.learn(x, 1, forty);
        Scenes.learn(x, 2, "5,5");
        Check.due("40 by 7, 48 and more by 5 and 6", x.bestRuling(), 7);
        RuledStrokes y = new RuledStrokes();
        Scenes.learn(y, 1, forty + "/1,1");
        Scenes.learn(y, 2, "5,5");
        Check.due("41 by 7", y.bestRuling(), 8);
        RuledStrokes z = new RuledStrokes();
        Scenes.learn(z, 1, "0,0-9,0");
        Scenes.learn(z, 2, "0,0-10,0");
        Check.due("5 parts them by 2, 10 does, too", z.bestRuling(), 5);
        Scenes.learn(z, 2, forty);
        Check.due("by 10, as one sample has too many by 5", z.bestRuling(), 10);
        Scenes.draw(z, Scenes.FORTY);
        Check.due("the figure at hand is no sample", z.bestRuling(), 10);
        z.forget(2);
        Check.due("nor a sample that is forgotten", z.bestRuling(), 5);
        RuledStrokes w = new RuledStrokes();
        w.set(0, 20);
        Scenes.learn(w, 1, "0,0-60,60-0,0-60,60-0,0-60,60-0,0");
        Scenes.learn(w, 2, "1,1");
        Check.due("36 by 16, 48 by 15", w.bestRuling(), 16);
    }

    private static void noBestRuling() {
        Check.says("Promise 24", "NONE if there are no two with different names, or no ruling counts.");
        RuledStrokes x = new RuledStrokes();
        Check.due("no samples", x.bestRuling(), -1);
        Scenes.learn(x, 1, "0,0-19,0");
        Check.due("one sample", x.bestRuling(), -1);
        Scenes.learn(x, 1, "0,0");
        Check.due("two with the same name", x.bestRuling(), -1);
        x.point(5, 5);
        Check.due("the figure at hand has no name", x.bestRuling(), -1);
        Scenes.learn(x, 2, "0,0-0,19");
        Check.due("another name", x.bestRuling(), 5);
        x.forget(2);
        Check.due("which is forgotten", x.bestRuling(), -1);
    }

    private static void mirrored() {
        Check.says("Promise 25", "Tells what the mirrored figure would be read as.");
        RuledStrokes x = new RuledStrokes();
        Scenes.learn(x, 0, Scenes.figure("0000"));
        Scenes.learn(x, 3, Scenes.figure("2222"));
        Scenes.learn(x, 4, Scenes.figure("111"));
        Scenes.learn(x, 5, Scenes.figure("333"));
        Scenes.learn(x, 6, Scenes.figure("0042242"));
        Check.due("no strokes", new RuledStrokes().mirrored(), -1);
        int[][] want = {{0, 3}, {3, 0}, {4, 4}, {5, 5}};
        String[] drawn = {"0000", "2222", "111", "333"};
        for (int i = 0; i < 4; i++) {
            Scenes.draw(x, Scenes.figure(drawn[i]));
            Check.due("'" + drawn[i] + "' as it is", x.read(1), want[i][0]);
            Check.due("'" + drawn[i] + "' mirrored", x.mirrored(), want[i][1]);
        }
        Scenes.draw(x, Scenes.figure("2240040"));
        Check.due("each of three strokes is mirrored", x.mirrored(), 6);
        x.set(1, 0);
        Check.due("each of three strokes, by the limit 0", x.mirrored(), 6);
        mirroredFullStrokes();
    }

    /** Three strokes of 12 points, each of which crosses its lines with its first step. */
    private static void mirroredFullStrokes() {
        RuledStrokes x = new RuledStrokes();
        x.set(1, 0);
        Scenes.learn(x, 8, Scenes.figure("2422400"));
        int[][] ways = {{5, 15}, {5, 25}, {25, 5}};
        for (int[] way : ways) {
            x.point(way[0], 5);
            for (int i = 1; i < 12; i++) {
                x.point(way[1], 5);
            }
            x.lift();
        }
        Check.dueSigns("36 points", x, "0400422");
        Check.due("36 points are mirrored, each once", x.mirrored(), 8);
    }

    private static void mirroredReturns() {
        Check.says("Promise 25", "Returns the name that the figure at hand would be read as if each x was 60 less it; "
                + "NONE if it would not be read, or would have more than 40 signs.");
        RuledStrokes x = new RuledStrokes();
        x.set(1, 0);
        Scenes.learn(x, 5, "10,5-9,5");
        Scenes.learn(x, 6, "5,5");
        Scenes.learn(x, 7, "0,0-60,10");
        Scenes.draw(x, "10,5-9,5");
        Check.due("50 to 51 crosses no line", x.mirrored(), 6);
        Scenes.draw(x, "49,5-51,5");
        Check.due("11 to 9 crosses one to the left", x.mirrored(), 5);
        Scenes.draw(x, "50,5-51,5");
        Check.due("10 to 9 crosses one to the left", x.mirrored(), 5);
        Scenes.draw(x, "51,5-60,5");
        Check.due("9 to 0 crosses none", x.mirrored(), 6);
        Scenes.draw(x, "60,0-0,10");
        Check.due("0 to 60", x.mirrored(), 7);
        x.learn(8);
        Check.due("no strokes", x.mirrored(), 6);
        x.point(50, 9);
        Check.due("a point that goes on", x.mirrored(), 6);
        x.point(51, 9);
        Check.due("a stroke that goes on", x.mirrored(), 5);
        x.set(0, 20);
        Scenes.learn(x, 9, "20,5-19,5");
        Scenes.draw(x, "40,5-41,5");
        Check.due("20 to 19 by another ruling", x.mirrored(), 9);
    }

    private static void mirroredOrNone() {
        Check.says("Promise 25", "NONE if it would not be read, or would have more than 40 signs.");
        RuledStrokes x = new RuledStrokes();
        Scenes.learn(x, 0, Scenes.figure("0000"));
        Scenes.learn(x, 1, Scenes.figure("1111"));
        Scenes.draw(x, Scenes.figure("2211"));
        Check.due("a tie", x.mirrored(), -1);
        Scenes.draw(x, Scenes.figure("222"));
        Check.due("read", x.mirrored(), 0);
        x.set(1, 1);
        Check.due("strange", x.mirrored(), -1);
        x.set(1, 2);
        Check.due("read by the limit", x.mirrored(), 0);
        RuledStrokes y = new RuledStrokes();
        y.set(1, 99);
        Check.due("no samples", y.mirrored(), -1);
        String wide = "0,0-59,0-0,0-59,0-0,0-59,0-0,0-59,0";
        Scenes.learn(y, 1, wide);
        Scenes.draw(y, wide);
        Check.due("35 signs", y.about(3), 35);
        Check.due("42 when it is mirrored", y.mirrored(), -1);
        Check.due("35 signs still", y.about(3), 35);
        String six = "0,0-59,0-0,0-59,0-0,0-59,0-0,0-";
        int[][] want = {{31, 1}, {40, 1}, {41, -1}, {50, -1}};
        for (int[] pair : want) {
            Scenes.draw(y, six + pair[0] + ",0");
            Check.due("36 and " + (6 - (60 - pair[0]) / 10) + " when it is mirrored", y.mirrored(), pair[1]);
        }
        Scenes.draw(y, six + "40,0/1,1");
        Check.due("40 and the sign 4 when it is mirrored", y.mirrored(), -1);
    }
}
