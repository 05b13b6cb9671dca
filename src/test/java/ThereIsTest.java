/** Promises 1 and 5 to 10: a new object, numbers, signs, samples, practice, settings. */
public final class ThereIsTest {
    public static void main(String[] args) {
        newObject();
        about();
        aboutPractice();
        aboutRefused();
        sign();
        signOrNone();
        signRefused();
        sample();
        sampleIndex();
        sampleRefused();
        signOf();
        signOfOrNone();
        signOfIndex();
        signOfRefused();
        practised();
        practisedRefused();
        setting();
        settingRefused();
        nothingChanges();
        Check.end();
    }

    private static void newObject() {
        Check.says("Promise 1", "Creates a figure without strokes, and no samples.");
        RuledStrokes x = new RuledStrokes();
        Check.dueAbout("new", x, 0, 0, 0, 0, 0, 0, 0, 0);
        Check.due("new: sign(0)", x.sign(0), -1);
        Check.refused("new: sample(0, 0)", Check.INDEX, () -> x.sample(0, 0));
        Check.refused("new: signOf(0, 0)", Check.INDEX, () -> x.signOf(0, 0));
        for (int name = 0; name <= 9; name++) {
            for (int what = 0; what <= 2; what++) {
                Check.due("new: practised", x.practised(name, what), 0);
            }
        }
        Check.due("new: setting(0)", x.setting(0), 10);
        Check.due("new: setting(1)", x.setting(1), 12);
        Check.due("new: setting(2)", x.setting(2), 1);
        Check.dueRead("new", x, 2, -1, -1, -1);
        Check.refused("new: undo", Check.STATE, x::undo);
        Check.refused("new: restore(0)", Check.STATE, () -> x.restore(0));
        Check.refused("new: restore(1)", Check.STATE, () -> x.restore(1));
        Check.due("new: clearText", x.clearText(), 0);
        Check.due("new: the first sample", learnPoint(x), 0);
        Check.due("another object knows nothing of it", new RuledStrokes().about(4), 0);
    }

    private static int learnPoint(RuledStrokes x) {
        x.point(5, 5);
        return x.learn(0);
    }

    private static void about() {
        Check.says("Promise 5", "Returns a number.");
        Check.says("Promise 5", "Returns that number.");
        Check.says("Promise 5", "`what`: 0: the strokes of the figure at hand (one that was begun, too); 1: its "
                + "points; 2: 1 if its last stroke goes on with the next point, otherwise 0; 3: the signs of its "
                + "signature; 4: the samples; 5: the figures that were practised so far; 6: of these, those that "
                + "were read right; 7: those that were strange or a tie");
        RuledStrokes x = new RuledStrokes();
        Check.dueAbout("new", x, 0, 0, 0, 0, 0, 0, 0, 0);
        x.lift();
        Check.dueAbout("lifted without strokes", x, 0, 0, 0, 0, 0);
        x.point(5, 5);
        Check.dueAbout("a stroke that was begun", x, 1, 1, 1, 0, 0);
        x.point(25, 5);
        Check.dueAbout("two points", x, 1, 2, 1, 2, 0);
        x.lift();
        Check.dueAbout("lifted", x, 1, 2, 0, 2, 0);
        x.point(5, 5);
        Check.dueAbout("a second stroke", x, 2, 3, 1, 3, 0);
        x.learn(1);
        Check.dueAbout("learned", x, 0, 0, 0, 0, 1);
        for (int i = 1; i <= 36; i++) {
            x.point(5, 5);
            Check.dueAbout("point " + i, x, (i + 11) / 12, i, 1, (i - 1) / 12, 1);
            if (i % 12 == 0) {
                x.lift();
            }
        }
        Check.dueAbout("3 strokes, lifted", x, 3, 36, 0, 2, 1);
        x.forget(0);
        Check.dueAbout("forgotten", x, 3, 36, 0, 2, 0);
        Check.dueAbout("16 samples", Scenes.withSamples(16), 0, 0, 0, 0, 16, 0, 0, 0);
        RuledStrokes y = new RuledStrokes();
        Scenes.draw(y, Scenes.FORTY);
        Check.dueAbout("40 signs", y, 1, 5, 0, 40, 0);
    }

    private static void aboutPractice() {
        Check.says("Promise 5", "5: the figures that were practised so far; 6: of these, those that were read "
                + "right; 7: those that were strange or a tie");
        RuledStrokes x = new RuledStrokes();
        practise(x, "000", 3);
        Check.dueAbout("strange without samples", x, 0, 0, 0, 0, 0, 1, 0, 1);
        Scenes.learn(x, 3, Scenes.figure("0000"));
        Scenes.learn(x, 4, Scenes.figure("1111"));
        practise(x, "000", 3);
        practise(x, "111", 4);
        Check.dueAbout("two read right", x, 0, 0, 0, 0, 2, 3, 2, 1);
        practise(x, "000", 4);
        Check.dueAbout("one read wrong", x, 0, 0, 0, 0, 2, 4, 2, 1);
        practise(x, "0011", 3);
        Check.dueAbout("a tie", x, 0, 0, 0, 0, 2, 5, 2, 2);
        practise(x, "2222233", 3);
        Check.dueAbout("strange", x, 0, 0, 0, 0, 2, 6, 2, 3);
        x.undo();
        Check.dueAbout("taken back", x, 1, 3, 0, 7, 2, 5, 2, 2);
    }

    private static void practise(RuledStrokes x, String signs, int name) {
        Scenes.draw(x, Scenes.figure(signs));
        x.practise(name);
    }

    private static void aboutRefused() {
        Check.says("Promise 5", "Throws `IllegalArgumentException` if what is not 0 to 7");
        RuledStrokes x = Scenes.two();
        for (int what : new int[] {-1, 8, 9, Integer.MIN_VALUE, Integer.MAX_VALUE}) {
            Check.refused("about(" + what + ")", Check.ARGUMENT, () -> x.about(what));
        }
    }

    private static void sign() {
        Check.says("Promise 6", "Returns a sign of the signature of the figure at hand.");
        Check.says("Promise 6", "`k`: index, 0 or more");
        RuledStrokes x = new RuledStrokes();
        String[] drawn = {"0", "1", "2", "3", "4", "44", "0123", "3210432", "00411"};
        for (String signs : drawn) {
            Scenes.draw(x, Scenes.figure(signs));
            for (int k = 0; k < signs.length(); k++) {
                Check.due(signs + ": sign(" + k + ")", x.sign(k), signs.charAt(k) - '0');
            }
        }
        Scenes.draw(x, Scenes.FORTY);
        for (int k = 0; k < 40; k++) {
            int want = k >= 36 ? 3 : k % 2 + (k / 12 == 1 ? 2 : 0);
            Check.due("sign(" + k + ") of 40", x.sign(k), want);
        }
    }

    private static void signOrNone() {
        Check.says("Promise 6", "Returns the sign; NONE if there are not so many.");
        RuledStrokes x = new RuledStrokes();
        Check.due("sign(0) without strokes", x.sign(0), -1);
        Scenes.draw(x, Scenes.FORTY);
        Check.due("sign(39) of 40", x.sign(39), 3);
        for (int k : new int[] {40, 41, 1000, Integer.MAX_VALUE}) {
            Check.due("sign(" + k + ") of 40", x.sign(k), -1);
        }
        Scenes.draw(x, Scenes.figure("0011"));
        Check.due("sign(3) of 4", x.sign(3), 1);
        Check.due("sign(4) of 4, where others were", x.sign(4), -1);
        x.learn(0);
        Check.due("sign(0) when it is learned", x.sign(0), -1);
        Check.due("sign(39) when it is learned", x.sign(39), -1);
    }

    private static void signRefused() {
        Check.says("Promise 6", "Throws `IllegalArgumentException` if k is negative");
        RuledStrokes x = Scenes.two();
        Check.due("sign(0)", x.sign(0), 0);
        for (int k : new int[] {-1, -2, Integer.MIN_VALUE}) {
            Check.refused("sign(" + k + ")", Check.ARGUMENT, () -> x.sign(k));
        }
    }

    /** 0: name 7, 3 strokes, 6 points; 1: name 0, a point alone; 2: 12 points. */
    private static RuledStrokes three() {
        RuledStrokes x = new RuledStrokes();
        Scenes.learn(x, 7, "5,5-45,5/1,1/2,2-3,3-4,4");
        Scenes.learn(x, 0, "5,5");
        Scenes.learn(x, 9, Scenes.TWELVE.replace("9,9", "19,9"));
        return x;
    }

    private static void sample() {
        Check.says("Promise 7", "Returns a number of a sample.");
        Check.says("Promise 7", "Returns that number.");
        Check.says("Promise 7", "`s`: sample");
        Check.says("Promise 7", "`what`: 0: its name; 1: its strokes; 2: its points; 3: the signs of its signature");
        int[][] want = {{7, 3, 6, 6}, {0, 1, 1, 0}, {9, 1, 12, 2}};
        for (int s = 0; s < 3; s++) {
            for (int what = 0; what < 4; what++) {
                Check.due("sample(" + s + ", " + what + ")", three().sample(s, what), want[s][what]);
            }
        }
        RuledStrokes x = new RuledStrokes();
        for (int i = 0; i < 36; i++) {
            x.point(5, 5);
            if (i % 12 == 11) {
                x.lift();
            }
        }
        x.learn(0);
        Check.due("36 points", x.sample(0, 2), 36);
        Scenes.learn(x, 1, Scenes.FORTY);
        Check.due("40 signs", x.sample(1, 3), 40);
        Check.due("name of the 16th", Scenes.withSamples(16).sample(15, 0), 5);
    }

    private static void dueNoSample(String what, RuledStrokes x, int samples) {
        for (int s : new int[] {-1, samples, samples + 1, 16, Integer.MIN_VALUE, Integer.MAX_VALUE}) {
            Check.refused(what + ": sample(" + s + ", 0)", Check.INDEX, () -> x.sample(s, 0));
            Check.refused(what + ": signOf(" + s + ", 0)", Check.INDEX, () -> x.signOf(s, 0));
        }
    }

    private static void sampleIndex() {
        Check.says("Promise 7", "Throws `IndexOutOfBoundsException` if there is no such sample");
        dueNoSample("none", new RuledStrokes(), 0);
        dueNoSample("three", three(), 3);
        dueNoSample("16", Scenes.withSamples(16), 16);
        RuledStrokes x = three();
        x.forget(0);
        dueNoSample("one is forgotten", x, 2);
        Check.refused("before what is wrong", Check.INDEX, () -> x.sample(2, 4));
    }

    private static void sampleRefused() {
        Check.says("Promise 7", "Throws `IllegalArgumentException` if what is not 0 to 3");
        RuledStrokes x = three();
        for (int what : new int[] {-1, 4, Integer.MIN_VALUE, Integer.MAX_VALUE}) {
            Check.refused("sample(2, " + what + ")", Check.ARGUMENT, () -> x.sample(2, what));
        }
    }

    private static void signOf() {
        Check.says("Promise 8", "Returns a sign of the signature of a sample.");
        Check.says("Promise 8", "`s`: sample");
        Check.says("Promise 8", "`k`: index, 0 or more");
        RuledStrokes x = new RuledStrokes();
        String[] learned = {"", "0123", "4", "3210432", "44"};
        for (int s = 0; s < learned.length; s++) {
            Scenes.learn(x, s, Scenes.figure(learned[s]));
        }
        for (int s = 0; s < learned.length; s++) {
            for (int k = 0; k < learned[s].length(); k++) {
                Check.due("signOf(" + s + ", " + k + ")", x.signOf(s, k), learned[s].charAt(k) - '0');
            }
        }
        x.forget(0);
        Check.dueSignsOf("sample 0, that was 1", x, 0, "0123");
        x.set(0, 20);
        Check.dueSignsOf("by another ruling", x, 0, "");
        RuledStrokes y = Scenes.withSamples(16);
        for (int s = 0; s < 16; s++) {
            Check.dueSignsOf("sample " + s, y, s, Scenes.signsOfSample(s));
        }
    }

    private static void signOfOrNone() {
        Check.says("Promise 8", "Returns the sign; NONE if there are not so many.");
        RuledStrokes x = new RuledStrokes();
        Scenes.learn(x, 0, Scenes.FORTY);
        Scenes.learn(x, 1, "5,5");
        Scenes.learn(x, 2, Scenes.figure("32"));
        Check.due("signOf(0, 39)", x.signOf(0, 39), 3);
        Check.due("signOf(0, 40), ahead of another sample", x.signOf(0, 40), -1);
        Check.due("signOf(0, max)", x.signOf(0, Integer.MAX_VALUE), -1);
        Check.due("signOf(1, 0)", x.signOf(1, 0), -1);
        Check.due("signOf(2, 1)", x.signOf(2, 1), 2);
        Check.due("signOf(2, 2)", x.signOf(2, 2), -1);
        x.forget(0);
        Check.due("signOf(0, 0), where another sample was", x.signOf(0, 0), -1);
        Check.due("signOf(1, 2)", x.signOf(1, 2), -1);
    }

    private static void signOfIndex() {
        Check.says("Promise 8", "Throws `IndexOutOfBoundsException` if there is no such sample");
        RuledStrokes x = three();
        dueNoSample("three", x, 3);
        Check.refused("before k is wrong", Check.INDEX, () -> x.signOf(3, -1));
        Check.refused("before k is wrong", Check.INDEX, () -> x.signOf(-1, -1));
        Check.due("signOf(2, 1)", x.signOf(2, 1), 2);
    }

    private static void signOfRefused() {
        Check.says("Promise 8", "Throws `IllegalArgumentException` if k is negative");
        RuledStrokes x = three();
        for (int k : new int[] {-1, -2, Integer.MIN_VALUE}) {
            Check.refused("signOf(0, " + k + ")", Check.ARGUMENT, () -> x.signOf(0, k));
            Check.refused("signOf(2, " + k + ")", Check.ARGUMENT, () -> x.signOf(2, k));
        }
    }

    private static void duePractised(String what, RuledStrokes x, int name, int... want) {
        for (int i = 0; i < 3; i++) {
            Check.due(what + ": practised(" + name + ", " + i + ")", x.practised(name, i), want[i]);
        }
    }

    private static void practised() {
        Check.says("Promise 9", "Returns what became of practising a name.");
        Check.says("Promise 9", "Returns that number.");
        Check.says("Promise 9", "`name`: 0 to 9");
        Check.says("Promise 9", "`what`: 0: how often it was read right so far; 1: how often it was strange or a "
                + "tie; 2: how often it was read as another name");
        for (int name = 0; name <= 9; name++) {
            int other = 9 - name;
            RuledStrokes x = new RuledStrokes();
            practise(x, "0000", name);
            duePractised("strange", x, name, 0, 1, 0);
            Scenes.learn(x, name, Scenes.figure("0000"));
            Scenes.learn(x, other, Scenes.figure("1111"));
            for (int i = 1; i <= 3; i++) {
                practise(x, "000", name);
                duePractised("right", x, name, i, 1, 0);
            }
            practise(x, "111", name);
            practise(x, "111", name);
            duePractised("read as another name", x, name, 3, 1, 2);
            practise(x, "0011", name);
            duePractised("a tie", x, name, 3, 2, 2);
            duePractised("the other name", x, other, 0, 0, 0);
            duePractised("a third one", x, (name + 1) % 10 == other ? (name + 2) % 10 : (name + 1) % 10, 0, 0, 0);
        }
    }

    private static void practisedRefused() {
        Check.says("Promise 9", "Throws `IllegalArgumentException` if name or what is out of range");
        RuledStrokes x = Scenes.used();
        for (int wrong : new int[] {-1, 10, Integer.MIN_VALUE, Integer.MAX_VALUE}) {
            Check.refused("practised(" + wrong + ", 0)", Check.ARGUMENT, () -> x.practised(wrong, 0));
            Check.refused("practised(9, " + wrong + ")", Check.ARGUMENT, () -> x.practised(9, wrong));
            Check.refused("practised(" + wrong + ", 2)", Check.ARGUMENT, () -> x.practised(wrong, 2));
        }
        Check.refused("practised(0, 3)", Check.ARGUMENT, () -> x.practised(0, 3));
        Check.refused("practised(1, -1)", Check.ARGUMENT, () -> x.practised(1, -1));
        Check.refused("practised(-1, 3)", Check.ARGUMENT, () -> x.practised(-1, 3));
    }

    private static void setting() {
        Check.says("Promise 10", "Returns a setting.");
        Check.says("Promise 10", "Returns that setting.");
        Check.says("Promise 10", "`what`: 0 to 2");
        RuledStrokes x = new RuledStrokes();
        dueSettings("at first", x, 10, 12, 1);
        x.set(0, 20);
        dueSettings("the ruling", x, 20, 12, 1);
        x.set(1, 99);
        dueSettings("the limit", x, 20, 99, 1);
        x.set(2, 20);
        dueSettings("the margin", x, 20, 99, 20);
        x.set(0, 5);
        x.set(1, 0);
        x.set(2, 1);
        dueSettings("the least ones", x, 5, 0, 1);
        x.undo();
        dueSettings("taken back", x, 5, 0, 20);
    }

    private static void dueSettings(String what, RuledStrokes x, int... want) {
        for (int i = 0; i < 3; i++) {
            Check.due(what + ": setting(" + i + ")", x.setting(i), want[i]);
        }
    }

    private static void settingRefused() {
        Check.says("Promise 10", "Throws `IllegalArgumentException` if what is out of range");
        RuledStrokes x = new RuledStrokes();
        for (int what : new int[] {-1, 3, 4, Integer.MIN_VALUE, Integer.MAX_VALUE}) {
            Check.refused("setting(" + what + ")", Check.ARGUMENT, () -> x.setting(what));
        }
    }

    private static void nothingChanges() {
        Check.says("Constants", "Ahead of the calls `about`, `sign`, `sample`, `signOf`, `practised`, `setting` "
                + "the interface says: ---- what there is.");
        RuledStrokes x = Scenes.used();
        x.about(3);
        x.sign(1);
        x.sample(1, 3);
        x.signOf(1, 3);
        x.practised(3, 0);
        x.setting(2);
        Check.same("nothing changes", Scenes.all(x), Scenes.all(Scenes.used()));
    }
}
