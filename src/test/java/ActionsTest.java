/** Promises 11, 12 and 14 to 17: points, lifting, samples, practice, settings. */
public final class ActionsTest {
    public static void main(String[] args) {
        point();
        pointReturns();
        pointOutOfRange();
        pointRefused();
        pointWithTooManySigns();
        lift();
        liftReturns();
        learn();
        learnReturns();
        learnOutOfRange();
        learnRefused();
        learnLikeAnother();
        forget();
        forgetReturns();
        forgetRefused();
        practise();
        practiseReturns();
        practiseOutOfRange();
        practiseRefused();
        set();
        anotherRuling();
        setReturns();
        setOutOfRange();
        setRefused();
        setRefusedForSamples();
        signsOfOtherRulings();
        Check.end();
    }

    private static void point() {
        Check.says("Promise 11", "Adds a point to the figure at hand: to the stroke that goes on, or, if none does, "
                + "as the first one of a new stroke, which goes on then.");
        Check.says("Promise 11", "`x`: 0 to 60");
        Check.says("Promise 11", "`y`: 0 to 60");
        RuledStrokes x = new RuledStrokes();
        x.point(0, 60);
        Check.dueAbout("a new stroke", x, 1, 1, 1, 0);
        x.point(60, 60);
        Check.dueAbout("the stroke that goes on", x, 1, 2, 1, 6);
        x.point(60, 0);
        Check.dueAbout("again", x, 1, 3, 1, 12);
        x.lift();
        x.point(0, 0);
        Check.dueAbout("a second stroke", x, 2, 4, 1, 13);
        x.lift();
        x.point(60, 60);
        Check.dueAbout("a third stroke", x, 3, 5, 1, 14);
        x.point(40, 60);
        Check.dueAbout("which goes on", x, 3, 6, 1, 16);
        Check.dueSigns("signs", x, "000000" + "333333" + "44" + "22");
        Scenes.draw(x, "5,5-15,5");
        x.point(5, 5);
        Check.dueAbout("none goes on behind draw", x, 2, 3, 1, 2);
        for (int k = 0; k <= 60; k++) {
            RuledStrokes y = new RuledStrokes();
            Check.due("point(" + k + ", " + (60 - k) + ")", y.point(k, 60 - k), 0);
            Check.due("to (0, 0)", y.point(0, 0), k / 10 + (60 - k) / 10);
        }
    }

    private static void pointReturns() {
        Check.says("Promise 11", "Returns the number of signs then.");
        RuledStrokes x = new RuledStrokes();
        Check.due("the first", x.point(0, 0), 0);
        Check.due("6 and 6", x.point(60, 60), 12);
        Check.due("the same again", x.point(60, 60), 12);
        x.lift();
        Check.due("the sign 4, too", x.point(0, 0), 13);
        Check.due("no line", x.point(9, 9), 13);
        Check.due("6 and 6", x.point(60, 60), 25);
        x.lift();
        Check.due("two of the signs 4", x.point(60, 60), 26);
        Check.due("39", x.point(0, 0), 38);
        Check.due("40", x.point(10, 10), 40);
        x.learn(0);
        Check.due("the first again", x.point(0, 0), 0);
    }

    private static void pointOutOfRange() {
        Check.says("Promise 11", "Throws `IllegalArgumentException` if x or y is out of range");
        RuledStrokes x = new RuledStrokes();
        for (int wrong : new int[] {-1, 61, Integer.MIN_VALUE, Integer.MAX_VALUE}) {
            for (int other : new int[] {0, 30, 60, wrong}) {
                Check.refused("point(" + wrong + ", " + other + ")", Check.ARGUMENT, () -> x.point(wrong, other));
                Check.refused("point(" + other + ", " + wrong + ")", Check.ARGUMENT, () -> x.point(other, wrong));
            }
        }
        Check.dueAbout("nothing is added", x, 0, 0, 0, 0);
    }

    private static void pointRefused() {
        Check.says("Promise 11", "Throws `IllegalStateException` if the stroke that goes on has 12 points, if there "
                + "are 3 strokes and none goes on, or if there would be more than 40 signs");
        RuledStrokes x = new RuledStrokes();
        for (int stroke = 1; stroke <= 3; stroke++) {
            for (int i = 1; i <= 12; i++) {
                Check.due("point " + i + " of stroke " + stroke, x.point(i % 5, i % 7), stroke - 1);
            }
            Check.refused("12 points", Check.STATE, () -> x.point(5, 5));
            Check.dueAbout("12 points", x, stroke, 12 * stroke, 1, stroke - 1);
            x.lift();
        }
        Check.refused("3 strokes and none goes on", Check.STATE, () -> x.point(5, 5));
        Check.dueAbout("3 strokes", x, 3, 36, 0, 2);
        RuledStrokes y = new RuledStrokes();
        Scenes.draw(y, "5,5/5,5/5,5");
        Check.refused("3 strokes that were drawn", Check.STATE, () -> y.point(5, 5));
        Scenes.draw(y, Scenes.TWELVE);
        Check.due("12 points, but none goes on", y.point(5, 5), 1);
    }

    private static void pointWithTooManySigns() {
        Check.says("Promise 11", "or if there would be more than 40 signs");
        RuledStrokes x = new RuledStrokes();
        for (int i = 0; i < 4; i++) {
            x.point(i % 2 * 60, i % 2 * 60);
        }
        Check.refused("41", Check.STATE, () -> x.point(60, 19));
        Check.refused("41 by columns and rows", Check.STATE, () -> x.point(39, 40));
        Check.refused("48", Check.STATE, () -> x.point(0, 0));
        Check.dueAbout("nothing is added", x, 1, 4, 1, 36);
        Check.due("40", x.point(60, 20), 40);
        Check.due("40 still", x.point(60, 29), 40);
        Check.refused("one more", Check.STATE, () -> x.point(60, 30));
        x.lift();
        Check.refused("the sign 4 as the 41st", Check.STATE, () -> x.point(0, 0));
        Check.dueAbout("nothing is added", x, 1, 6, 0, 40);
        RuledStrokes y = new RuledStrokes();
        Scenes.draw(y, "0,0-60,60-0,0-60,60-60,30");
        Check.due("the sign 4 as the 40th", y.point(0, 0), 40);
        Check.due("no sign more", y.point(9, 9), 40);
        Check.refused("one more", Check.STATE, () -> y.point(10, 0));
        RuledStrokes z = new RuledStrokes();
        z.set(0, 5);
        z.point(0, 0);
        z.point(60, 60);
        Check.due("36 by another ruling", z.point(0, 60), 36);
        Check.due("40 by another ruling", z.point(0, 40), 40);
        Check.refused("41 by another ruling", Check.STATE, () -> z.point(0, 39));
    }

    private static void lift() {
        Check.says("Promise 12", "Lifts the pen: no stroke goes on then.");
        RuledStrokes x = new RuledStrokes();
        x.lift();
        Check.dueAbout("without strokes", x, 0, 0, 0, 0);
        x.point(5, 5);
        Check.due("a stroke goes on", x.about(2), 1);
        x.lift();
        Check.dueAbout("no stroke goes on", x, 1, 1, 0, 0);
        x.lift();
        Check.dueAbout("nor then", x, 1, 1, 0, 0);
        x.point(55, 55);
        Check.dueAbout("the next point begins a stroke", x, 2, 2, 1, 1);
    }

    private static void liftReturns() {
        Check.says("Promise 12", "Returns the number of strokes.");
        RuledStrokes x = new RuledStrokes();
        Check.due("none", x.lift(), 0);
        for (int stroke = 1; stroke <= 3; stroke++) {
            x.point(5, 5);
            Check.due("lift", x.lift(), stroke);
            Check.due("lift again", x.lift(), stroke);
        }
        x.learn(0);
        Check.due("none", x.lift(), 0);
    }

    private static void learn() {
        Check.says("Promise 14", "Learns the figure at hand as a sample, which is at hand no more (there is none "
                + "with strokes then).");
        Check.says("Promise 14", "`name`: 0 to 9");
        for (int name = 0; name <= 9; name++) {
            RuledStrokes x = new RuledStrokes();
            x.point(5, 5);
            x.point(15, 5);
            x.lift();
            x.point(15, 15);
            x.point(15, 5);
            x.learn(name);
            Check.dueAbout("learned", x, 0, 0, 0, 0, 1);
            Check.due("name", x.sample(0, 0), name);
            Check.due("strokes", x.sample(0, 1), 2);
            Check.due("points", x.sample(0, 2), 4);
            Check.dueSignsOf("signs", x, 0, "043");
            x.point(5, 5);
            Check.dueAbout("the next point begins a figure", x, 1, 1, 1, 0);
            x.point(5, 15);
            Check.dueSignsOf("the sample stays", x, 0, "043");
        }
    }

    private static void learnReturns() {
        Check.says("Promise 14", "Returns the number of the sample.");
        RuledStrokes x = new RuledStrokes();
        for (int s = 0; s < 16; s++) {
            x.point(s, 0);
            Check.due("learn", x.learn(3), s);
        }
        x.forget(0);
        x.forget(9);
        x.point(0, 0);
        Check.due("when two are forgotten", x.learn(3), 14);
    }

    private static void learnOutOfRange() {
        Check.says("Promise 14", "Throws `IllegalArgumentException` if name is out of range");
        RuledStrokes x = new RuledStrokes();
        x.point(5, 5);
        for (int name : new int[] {-1, 10, Integer.MIN_VALUE, Integer.MAX_VALUE}) {
            Check.refused("learn(" + name + ")", Check.ARGUMENT, () -> x.learn(name));
        }
        Check.dueAbout("it is at hand still", x, 1, 1, 1, 0, 0);
    }

    private static void learnRefused() {
        Check.says("Promise 14", "Throws `IllegalStateException` if the figure has no strokes, if there are 16 "
                + "samples, or if a sample with another name has the same signature");
        RuledStrokes x = new RuledStrokes();
        Check.refused("no strokes", Check.STATE, () -> x.learn(0));
        x.lift();
        Check.refused("no strokes, lifted", Check.STATE, () -> x.learn(0));
        x.point(5, 5);
        Check.due("a point is enough", x.learn(0), 0);
        Check.refused("no strokes again", Check.STATE, () -> x.learn(0));
        RuledStrokes y = Scenes.withSamples(15);
        y.point(5, 5);
        Check.due("15 samples", y.learn(0), 15);
        y.point(5, 5);
        Check.refused("16 samples", Check.STATE, () -> y.learn(0));
        Check.dueAbout("nothing is learned", y, 1, 1, 1, 0, 16);
        y.forget(3);
        Check.due("15 samples again", y.learn(0), 15);
    }

    private static void learnLikeAnother() {
        Check.says("Promise 14", "or if a sample with another name has the same signature");
        for (int s = 0; s < 15; s++) {
            RuledStrokes x = Scenes.withSamples(15);
            int own = s % 10;
            Scenes.draw(x, Scenes.figure(Scenes.signsOfSample(s)));
            for (int name = 0; name <= 9; name++) {
                int as = name;
                if (name != own) {
                    Check.refused("like sample " + s + ", name " + name, Check.STATE, () -> x.learn(as));
                }
            }
            Check.due("like sample " + s + ", its name", x.learn(own), 15);
        }
        RuledStrokes y = new RuledStrokes();
        Scenes.learn(y, 1, Scenes.figure("0004"));
        String[] others = {"000", "00041", "0014", "1004", "", "00044", "4000"};
        for (int i = 0; i < others.length; i++) {
            Check.due("'" + others[i] + "' is another one", Scenes.learn(y, 2, Scenes.figure(others[i])), i + 1);
        }
        Scenes.draw(y, "1,1-39,9/60,60");
        Check.refused("another figure with the same signature", Check.STATE, () -> y.learn(2));
        y.forget(0);
        Check.due("when it is forgotten", y.learn(2), 7);
        RuledStrokes z = new RuledStrokes();
        Scenes.learn(z, 1, "0,0-7,0");
        Scenes.learn(z, 1, "0,0-11,0");
        z.set(0, 5);
        Scenes.draw(z, "0,0-5,0");
        Check.refused("the same by the ruling that is set", Check.STATE, () -> z.learn(2));
        Scenes.draw(z, "0,0");
        Check.due("the same by another ruling", z.learn(2), 2);
    }

    private static void dueNames(String what, RuledStrokes x, int... names) {
        Check.due(what + ": samples", x.about(4), names.length);
        for (int s = 0; s < names.length; s++) {
            Check.due(what + ": name of " + s, x.sample(s, 0), names[s]);
        }
    }

    private static void forget() {
        Check.says("Promise 15", "Forgets a sample.");
        Check.says("Promise 15", "`s`: sample");
        RuledStrokes x = new RuledStrokes();
        String[] learned = {"", "1", "2242", "333"};
        for (int s = 0; s < 4; s++) {
            Scenes.learn(x, s, Scenes.figure(learned[s]));
        }
        x.point(3, 3);
        x.forget(1);
        dueNames("without the second", x, 0, 2, 3);
        Check.dueSignsOf("behind it", x, 1, "2242");
        Check.dueSignsOf("behind that", x, 2, "333");
        Check.due("strokes behind it", x.sample(1, 1), 2);
        Check.due("points behind it", x.sample(1, 2), 4);
        Check.dueSignsOf("before it", x, 0, "");
        Check.dueAbout("the figure at hand goes on", x, 1, 1, 1, 0);
        x.forget(2);
        dueNames("without the last", x, 0, 2);
        x.forget(0);
        dueNames("without the first", x, 2);
        Check.refused("signs of it", Check.INDEX, () -> x.signOf(1, 0));
        x.forget(0);
        dueNames("without any", x);
        x.set(0, 5);
        Check.dueRead("none is near", x, 2, -1, -1, -1);
    }

    private static void forgetReturns() {
        Check.says("Promise 15", "Returns the number of samples then.");
        RuledStrokes x = Scenes.withSamples(16);
        for (int left = 15; left >= 0; left--) {
            Check.due("forget", x.forget(left / 2), left);
        }
    }

    private static void forgetRefused() {
        Check.says("Promise 15", "Throws `IndexOutOfBoundsException` if there is no such sample");
        RuledStrokes x = new RuledStrokes();
        Check.refused("none: forget(0)", Check.INDEX, () -> x.forget(0));
        RuledStrokes y = Scenes.withSamples(16);
        for (int samples = 16; samples >= 0; samples--) {
            for (int s : new int[] {-1, samples, samples + 1, Integer.MIN_VALUE, Integer.MAX_VALUE}) {
                Check.refused(samples + ": forget(" + s + ")", Check.INDEX, () -> y.forget(s));
            }
            if (samples > 0) {
                y.forget(samples - 1);
            }
        }
    }

    private static void practise() {
        Check.says("Promise 16", "Practises a name: the figure at hand is read, it is counted what became of it, "
                + "and it is at hand no more (there is none with strokes then).");
        Check.says("Promise 16", "`name`: 0 to 9");
        for (int name = 0; name <= 9; name++) {
            RuledStrokes x = new RuledStrokes();
            Scenes.learn(x, name, Scenes.figure("0000"));
            x.point(5, 5);
            x.point(35, 5);
            x.practise(name);
            Check.dueAbout("it is at hand no more", x, 0, 0, 0, 0, 1, 1, 1, 0);
            Check.due("it is counted", x.practised(name, 0), 1);
            x.point(5, 5);
            Check.dueAbout("the next point begins a figure", x, 1, 1, 1, 0);
        }
    }

    private static void duePractise(RuledStrokes x, String signs, int name, int want) {
        Scenes.draw(x, Scenes.figure(signs));
        Check.due("'" + signs + "' practised as " + name, x.practise(name), want);
    }

    private static void practiseReturns() {
        Check.says("Promise 16", "Returns 0 if it was read right, 1 if it was strange or a tie, 2 if it was read as "
                + "another name.");
        RuledStrokes x = new RuledStrokes();
        duePractise(x, "000", 4, 1);
        Scenes.learn(x, 4, Scenes.figure("0000"));
        Scenes.learn(x, 5, Scenes.figure("1111"));
        duePractise(x, "000", 4, 0);
        duePractise(x, "000", 5, 2);
        duePractise(x, "111", 5, 0);
        duePractise(x, "111", 4, 2);
        duePractise(x, "111", 0, 2);
        duePractise(x, "0011", 4, 1);
        duePractise(x, "0011", 5, 1);
        duePractise(x, "0011", 9, 1);
        x.set(1, 1);
        duePractise(x, "000", 4, 1);
        duePractise(x, "0000", 4, 0);
        x.set(1, 2);
        duePractise(x, "000", 4, 0);
        x.set(2, 7);
        duePractise(x, "0000", 4, 0);
        x.set(2, 9);
        duePractise(x, "0000", 4, 1);
    }

    private static void practiseOutOfRange() {
        Check.says("Promise 16", "Throws `IllegalArgumentException` if name is out of range");
        RuledStrokes x = new RuledStrokes();
        x.point(5, 5);
        for (int name : new int[] {-1, 10, Integer.MIN_VALUE, Integer.MAX_VALUE}) {
            Check.refused("practise(" + name + ")", Check.ARGUMENT, () -> x.practise(name));
        }
        Check.dueAbout("it is at hand still", x, 1, 1, 1, 0, 0, 0, 0, 0);
    }

    private static void practiseRefused() {
        Check.says("Promise 16", "Throws `IllegalStateException` if the figure has no strokes");
        RuledStrokes x = new RuledStrokes();
        Check.refused("no strokes", Check.STATE, () -> x.practise(0));
        Scenes.learn(x, 0, "5,5");
        Check.refused("no strokes, a sample without signs", Check.STATE, () -> x.practise(0));
        Check.due("nothing is counted", x.about(5), 0);
        x.point(5, 5);
        Check.due("a point is enough", x.practise(0), 0);
        Check.refused("no strokes again", Check.STATE, () -> x.practise(0));
        Check.due("one is counted", x.about(5), 1);
    }

    private static void set() {
        Check.says("Promise 17", "Changes a setting.");
        Check.says("Promise 17", "`what`: 0 to 2");
        Check.says("Promise 17", "`v`: the new value, in its range");
        int[][] ranges = {{5, 20}, {0, 99}, {1, 20}};
        for (int what = 0; what < 3; what++) {
            for (int v : ranges[what]) {
                RuledStrokes x = new RuledStrokes();
                x.set(what, v);
                Check.due("set(" + what + ", " + v + "): ruling", x.setting(0), what == 0 ? v : 10);
                Check.due("set(" + what + ", " + v + "): limit", x.setting(1), what == 1 ? v : 12);
                Check.due("set(" + what + ", " + v + "): margin", x.setting(2), what == 2 ? v : 1);
            }
        }
    }

    private static void anotherRuling() {
        Check.says("Promise 17", "By another ruling the figure at hand and all samples have other signatures (also "
                + "if these are the same for samples with different names then).");
        RuledStrokes x = new RuledStrokes();
        Scenes.learn(x, 1, "5,5-15,5");
        Scenes.learn(x, 2, "5,5-5,15");
        Scenes.learn(x, 3, "5,5/25,45-5,5");
        x.point(5, 5);
        x.point(45, 45);
        x.set(0, 20);
        Check.dueSignsOf("sample 0 by 20", x, 0, "");
        Check.dueSignsOf("sample 1 by 20", x, 1, "");
        Check.dueSignsOf("sample 2 by 20", x, 2, "4323");
        Check.dueAbout("at hand by 20", x, 1, 2, 1, 4, 3);
        Check.dueSigns("at hand by 20", x, "0101");
        Check.due("the next point by 20", x.point(60, 45), 5);
        x.set(0, 7);
        Check.dueSignsOf("sample 0 by 7", x, 0, "00");
        Check.dueSignsOf("sample 1 by 7", x, 1, "11");
        Check.dueSignsOf("sample 2 by 7", x, 2, "4323323323");
        Check.dueSigns("at hand by 7", x, "010101010101" + "00");
        x.set(1, 50);
        x.set(2, 2);
        Check.dueSigns("by other settings", x, "010101010101" + "00");
        x.set(0, 10);
        Check.dueSignsOf("sample 0 by 10 again", x, 0, "0");
        Check.dueSigns("at hand by 10 again", x, "01010101" + "00");
    }

    private static void setReturns() {
        Check.says("Promise 17", "Returns the previous one.");
        RuledStrokes x = new RuledStrokes();
        int[][] ranges = {{5, 20, 10}, {0, 99, 12}, {1, 20, 1}};
        for (int what = 0; what < 3; what++) {
            Check.due("the least", x.set(what, ranges[what][0]), ranges[what][2]);
            Check.due("the greatest", x.set(what, ranges[what][1]), ranges[what][0]);
            Check.due("the same", x.set(what, ranges[what][1]), ranges[what][1]);
        }
    }

    private static void setOutOfRange() {
        Check.says("Promise 17", "Throws `IllegalArgumentException` if what or v is out of range");
        RuledStrokes x = new RuledStrokes();
        int[][] wrong = {{-1, 10}, {3, 10}, {Integer.MIN_VALUE, 10}, {Integer.MAX_VALUE, 10}, {0, 4}, {0, 21}, {0, 0},
            {0, -10}, {0, Integer.MIN_VALUE}, {0, Integer.MAX_VALUE}, {1, -1}, {1, 100}, {1, Integer.MIN_VALUE},
            {1, Integer.MAX_VALUE}, {2, 0}, {2, 21}, {2, Integer.MIN_VALUE}, {2, Integer.MAX_VALUE}};
        for (int[] pair : wrong) {
            Check.refused("set(" + pair[0] + ", " + pair[1] + ")", Check.ARGUMENT, () -> x.set(pair[0], pair[1]));
        }
        Check.due("ruling", x.setting(0), 10);
        Check.due("limit", x.setting(1), 12);
        Check.due("margin", x.setting(2), 1);
    }

    private static void setRefused() {
        Check.says("Promise 17", "Throws `IllegalStateException` if the figure at hand or a sample would have more "
                + "than 40 signs");
        RuledStrokes x = new RuledStrokes();
        Scenes.draw(x, Scenes.FORTY);
        Check.due("40", x.set(0, 9), 10);
        Check.due("40", x.set(0, 10), 9);
        Check.refused("47", Check.STATE, () -> x.set(0, 8));
        Check.due("ruling", x.setting(0), 10);
        Check.due("signs", x.about(3), 40);
        Check.due("another setting", x.set(1, 99), 12);
        Check.due("the same ruling", x.set(0, 10), 10);
        Check.due("fewer", x.set(0, 11), 10);
        x.lift();
        Check.refused("47 when it is lifted", Check.STATE, () -> x.set(0, 8));
        x.learn(0);
        Check.refused("47 of a sample", Check.STATE, () -> x.set(0, 8));
        x.forget(0);
        Check.due("forgotten", x.set(0, 8), 11);
        RuledStrokes y = new RuledStrokes();
        Scenes.draw(y, Scenes.FORTY);
        y.practise(0);
        Check.due("no more at hand", y.set(0, 5), 10);
    }

    private static void setRefusedForSamples() {
        Check.says("Promise 17", "if the figure at hand or a sample would have more than 40 signs");
        for (int place = 0; place < 3; place++) {
            RuledStrokes x = new RuledStrokes();
            for (int s = 0; s < 3; s++) {
                Scenes.learn(x, s, s == place ? Scenes.FORTY : "5,5-15," + (5 + 10 * s));
            }
            x.point(5, 5);
            x.point(15, 15);
            Check.refused("sample " + place + " would have 47", Check.STATE, () -> x.set(0, 8));
            Check.due("ruling", x.setting(0), 10);
            Check.dueSigns("at hand", x, "01");
            for (int s = 0; s < 3; s++) {
                if (s != place) {
                    Check.dueSignsOf("sample " + s, x, s, new String[] {"0", "01", "101"}[s]);
                }
            }
            Check.due("40", x.set(0, 9), 10);
        }
    }

    private static void signsOfOtherRulings() {
        Check.says("Promise 17", "Throws `IllegalStateException` if the figure at hand or a sample would have more "
                + "than 40 signs");
        String by7 = "0,0-60,60-0,0-";
        dueSignsBy7(by7 + "60,0", 40);
        dueSignsBy7(by7 + "60,0-60,7", 41);
        dueSignsBy7(by7 + "60,0/1,1", 41);
        dueSignsBy7(by7 + "55,0/1,1", 40);
        dueSignsBy7(by7 + "55,0/1,1/1,1", 41);
        dueSignsBy7(by7 + "48,0/1,1/1,1", 40);
    }

    /** By the ruling 7; one of more than 40 is refused at hand and as a sample. */
    private static void dueSignsBy7(String text, int want) {
        RuledStrokes x = new RuledStrokes();
        Scenes.draw(x, text);
        for (int i = 0; i < 2; i++) {
            if (want > 40) {
                Check.refused(text + " by 7", Check.STATE, () -> x.set(0, 7));
                Check.due(text + ": ruling", x.setting(0), 10);
            } else {
                Check.due(text + " by 7", x.set(0, 7), 10);
                Check.due(text + ": signs", i == 0 ? x.about(3) : x.sample(0, 3), want);
                x.set(0, 10);
            }
            if (i == 0) {
                x.learn(1);
            }
        }
    }
}
