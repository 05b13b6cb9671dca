/** The section EXCEPTIONS of the document: which one, which of several, and that nothing changes. */
public final class ExceptionsTest {
    private interface Use {
        int of(RuledStrokes x);
    }

    public static void main(String[] args) {
        indexOutOfBounds();
        illegalArgument();
        illegalState();
        firstOfSeveral();
        wrongNumbersChangeNothing();
        wrongStatesChangeNothing();
        Check.end();
    }

    private static void indexOutOfBounds() {
        Check.says("EXCEPTIONS", "IndexOutOfBoundsException means that a sample does not exist, or that a save slot is "
                + "not 0 or 1.");
        RuledStrokes x = Scenes.used();
        for (int none : new int[] {-1, 3, 16, Integer.MIN_VALUE, Integer.MAX_VALUE}) {
            Check.refused("sample(" + none + ", 0)", Check.INDEX, () -> x.sample(none, 0));
            Check.refused("signOf(" + none + ", 0)", Check.INDEX, () -> x.signOf(none, 0));
            Check.refused("forget(" + none + ")", Check.INDEX, () -> x.forget(none));
            Check.refused("nearest(" + none + ")", Check.INDEX, () -> x.nearest(none));
            Check.refused("between(" + none + ", 0)", Check.INDEX, () -> x.between(none, 0));
            Check.refused("between(0, " + none + ")", Check.INDEX, () -> x.between(0, none));
            Check.refused("save(" + none + ")", Check.INDEX, () -> x.save(none));
            Check.refused("restore(" + none + ")", Check.INDEX, () -> x.restore(none));
        }
        Check.refused("save(2)", Check.INDEX, () -> x.save(2));
        Check.refused("restore(2)", Check.INDEX, () -> x.restore(2));
        Check.due("the last sample exists", x.sample(2, 0), 3);
        Check.due("slot 1", x.save(1), 3);
    }

    private static void illegalArgument() {
        Check.says("EXCEPTIONS", "IllegalArgumentException means that another argument is out of its range.");
        RuledStrokes x = Scenes.used();
        for (int wrong : new int[] {-1, 256, Integer.MIN_VALUE, Integer.MAX_VALUE}) {
            Check.refused("append(" + wrong + ")", Check.ARGUMENT, () -> x.append(wrong));
            Check.refused("about(" + wrong + ")", Check.ARGUMENT, () -> x.about(wrong));
            Check.refused("sample(0, " + wrong + ")", Check.ARGUMENT, () -> x.sample(0, wrong));
            Check.refused("practised(" + wrong + ", 0)", Check.ARGUMENT, () -> x.practised(wrong, 0));
            Check.refused("practised(0, " + wrong + ")", Check.ARGUMENT, () -> x.practised(0, wrong));
            Check.refused("setting(" + wrong + ")", Check.ARGUMENT, () -> x.setting(wrong));
            Check.refused("point(" + wrong + ", 0)", Check.ARGUMENT, () -> x.point(wrong, 0));
            Check.refused("point(0, " + wrong + ")", Check.ARGUMENT, () -> x.point(0, wrong));
            Check.refused("learn(" + wrong + ")", Check.ARGUMENT, () -> x.learn(wrong));
            Check.refused("practise(" + wrong + ")", Check.ARGUMENT, () -> x.practise(wrong));
            Check.refused("set(" + wrong + ", 10)", Check.ARGUMENT, () -> x.set(wrong, 10));
            Check.refused("set(1, " + wrong + ")", Check.ARGUMENT, () -> x.set(1, wrong));
            Check.refused("read(" + wrong + ")", Check.ARGUMENT, () -> x.read(wrong));
            Check.refused("runScript(" + wrong + ", 0)", Check.ARGUMENT, () -> x.runScript(wrong, 0));
            Check.refused("simulate(0, " + wrong + ")", Check.ARGUMENT, () -> x.simulate(0, wrong));
        }
        for (int wrong : new int[] {-1, Integer.MIN_VALUE}) {
            Check.refused("sign(" + wrong + ")", Check.ARGUMENT, () -> x.sign(wrong));
            Check.refused("signOf(0, " + wrong + ")", Check.ARGUMENT, () -> x.signOf(0, wrong));
            Check.refused("runScript(1, " + wrong + ")", Check.ARGUMENT, () -> x.runScript(1, wrong));
        }
        Check.refused("runScript(1, 100000)", Check.ARGUMENT, () -> x.runScript(1, 100000));
    }

    private static void illegalState() {
        Check.says("EXCEPTIONS", "IllegalStateException means what the method says.");
        RuledStrokes x = new RuledStrokes();
        Check.refused("undo", Check.STATE, x::undo);
        Check.refused("draw", Check.STATE, x::draw);
        Check.refused("learn", Check.STATE, () -> x.learn(0));
        Check.refused("practise", Check.STATE, () -> x.practise(0));
        Check.refused("restore", Check.STATE, () -> x.restore(0));
        Check.refused("append", Check.STATE, () -> fullText().append(1));
        Check.refused("point", Check.STATE, () -> fullStroke().point(1, 1));
        Check.refused("set", Check.STATE, () -> fortySigns().set(0, 8));
    }

    private static void firstOfSeveral() {
        Check.says("EXCEPTIONS", "If several exceptions apply to a call, the one that its description names first is "
                + "thrown.");
        RuledStrokes x = new RuledStrokes();
        Check.refused("append: code, full", Check.ARGUMENT, () -> fullText().append(256));
        Check.refused("append: code, full", Check.ARGUMENT, () -> fullText().append(-1));
        Check.refused("sample: no sample, what", Check.INDEX, () -> x.sample(0, 4));
        Check.refused("sample: no sample, what", Check.INDEX, () -> x.sample(-1, -1));
        Check.refused("signOf: no sample, k", Check.INDEX, () -> x.signOf(0, -1));
        Check.refused("signOf: no sample, k", Check.INDEX, () -> x.signOf(-1, -1));
        Check.refused("point: y, 12 points", Check.ARGUMENT, () -> fullStroke().point(5, 61));
        Check.refused("point: x, 12 points", Check.ARGUMENT, () -> fullStroke().point(-1, 5));
        Check.refused("point: x, 3 strokes", Check.ARGUMENT, () -> threeStrokes().point(61, 5));
        Check.refused("point: x, 41 signs", Check.ARGUMENT, () -> fortySigns().point(61, 0));
        Check.refused("learn: name, no strokes", Check.ARGUMENT, () -> x.learn(10));
        Check.refused("learn: name, 16 samples", Check.ARGUMENT, () -> sixteenSamples().learn(-1));
        Check.refused("learn: name, the same signature", Check.ARGUMENT, () -> likeSample().learn(10));
        Check.refused("practise: name, no strokes", Check.ARGUMENT, () -> x.practise(10));
        Check.refused("practise: name, no strokes", Check.ARGUMENT, () -> x.practise(-1));
        Check.refused("set: v, 41 signs", Check.ARGUMENT, () -> fortySigns().set(0, 4));
        Check.refused("set: what, 41 signs", Check.ARGUMENT, () -> fortySigns().set(3, 8));
        Check.refused("set: v, 41 signs of a sample", Check.ARGUMENT, () -> fortySignsOfSample().set(0, 4));
        Check.refused("restore: no slot, nothing saved", Check.INDEX, () -> x.restore(2));
        Check.refused("restore: no slot, nothing saved", Check.INDEX, () -> x.restore(-1));
    }

    private static RuledStrokes fullText() {
        RuledStrokes x = Scenes.two();
        Scenes.write(x, "1".repeat(100));
        return x;
    }

    private static RuledStrokes fullStroke() {
        RuledStrokes x = Scenes.two();
        for (int i = 0; i < 10; i++) {
            x.point(35, 5);
        }
        return x;
    }

    private static RuledStrokes threeStrokes() {
        RuledStrokes x = Scenes.two();
        for (int i = 0; i < 2; i++) {
            x.lift();
            x.point(5, 5);
        }
        x.lift();
        return x;
    }

    /** At hand, and the stroke goes on; by the ruling 8 there would be more than 40. */
    private static RuledStrokes fortySigns() {
        RuledStrokes x = Scenes.two();
        x.practise(3);
        x.point(0, 0);
        x.point(60, 60);
        x.point(0, 0);
        x.point(60, 60);
        x.point(60, 20);
        return x;
    }

    private static RuledStrokes fortySignsLifted() {
        RuledStrokes x = fortySigns();
        x.lift();
        return x;
    }

    /** The last one of three; the figure at hand and the others would have other signs, too. */
    private static RuledStrokes fortySignsOfSample() {
        RuledStrokes x = fortySigns();
        x.learn(9);
        x.point(5, 5);
        x.point(55, 5);
        return x;
    }

    private static RuledStrokes sixteenSamples() {
        RuledStrokes x = Scenes.withSamples(16);
        x.point(5, 5);
        x.point(5, 55);
        return x;
    }

    /** At hand is a figure with the signature of sample 1, whose name is 7. */
    private static RuledStrokes likeSample() {
        RuledStrokes x = Scenes.two();
        Scenes.draw(x, "5,5-5,45");
        x.save(1);
        return x;
    }

    private static RuledStrokes without(String text) {
        RuledStrokes x = Scenes.two();
        Scenes.write(x, text);
        return x;
    }

    private static RuledStrokes nothingRemembered() {
        RuledStrokes x = Scenes.two();
        x.save(0);
        x.restore(0);
        return x;
    }

    private static RuledStrokes noStrokes() {
        RuledStrokes x = Scenes.two();
        x.practise(3);
        return x;
    }

    /** After a call that was refused all is as it is without this call. */
    private static void unchanged(String what, Scenes.Scene scene, Class<? extends RuntimeException> want, Use use) {
        RuledStrokes x = scene.make();
        Check.refused(what, want, () -> use.of(x));
        Check.same("behind " + what, Scenes.all(x), Scenes.all(scene.make()));
    }

    private static void unchanged(String what, Class<? extends RuntimeException> want, Use use) {
        unchanged(what, Scenes::used, want, use);
    }

    private static void wrongNumbersChangeNothing() {
        Check.says("EXCEPTIONS", "A call that throws an exception changes nothing.");
        for (int wrong : new int[] {-1, 256}) {
            unchanged("append(" + wrong + ")", Check.ARGUMENT, x -> x.append(wrong));
            unchanged("about(" + wrong + ")", Check.ARGUMENT, x -> x.about(wrong));
            unchanged("sample(" + wrong + ", 0)", Check.INDEX, x -> x.sample(wrong, 0));
            unchanged("sample(0, " + wrong + ")", Check.ARGUMENT, x -> x.sample(0, wrong));
            unchanged("signOf(" + wrong + ", 0)", Check.INDEX, x -> x.signOf(wrong, 0));
            unchanged("practised(" + wrong + ", 0)", Check.ARGUMENT, x -> x.practised(wrong, 0));
            unchanged("practised(0, " + wrong + ")", Check.ARGUMENT, x -> x.practised(0, wrong));
            unchanged("setting(" + wrong + ")", Check.ARGUMENT, x -> x.setting(wrong));
            unchanged("point(" + wrong + ", 0)", Check.ARGUMENT, x -> x.point(wrong, 0));
            unchanged("point(0, " + wrong + ")", Check.ARGUMENT, x -> x.point(0, wrong));
            unchanged("learn(" + wrong + ")", Check.ARGUMENT, x -> x.learn(wrong));
            unchanged("forget(" + wrong + ")", Check.INDEX, x -> x.forget(wrong));
            unchanged("practise(" + wrong + ")", Check.ARGUMENT, x -> x.practise(wrong));
            unchanged("set(" + wrong + ", 5)", Check.ARGUMENT, x -> x.set(wrong, 5));
            for (int what = 0; what < 3; what++) {
                int of = what;
                unchanged("set(" + what + ", " + wrong + ")", Check.ARGUMENT, x -> x.set(of, wrong));
            }
            unchanged("read(" + wrong + ")", Check.ARGUMENT, x -> x.read(wrong));
            unchanged("nearest(" + wrong + ")", Check.INDEX, x -> x.nearest(wrong));
            unchanged("between(" + wrong + ", 0)", Check.INDEX, x -> x.between(wrong, 0));
            unchanged("between(0, " + wrong + ")", Check.INDEX, x -> x.between(0, wrong));
            unchanged("runScript(" + wrong + ", 20000)", Check.ARGUMENT, x -> x.runScript(wrong, 20000));
            unchanged("simulate(1, " + wrong + ")", Check.ARGUMENT, x -> x.simulate(1, wrong));
            unchanged("save(" + wrong + ")", Check.INDEX, x -> x.save(wrong));
            unchanged("restore(" + wrong + ")", Check.INDEX, x -> x.restore(wrong));
        }
        unchanged("sign(-1)", Check.ARGUMENT, x -> x.sign(-1));
        unchanged("signOf(0, -1)", Check.ARGUMENT, x -> x.signOf(0, -1));
        unchanged("forget(3)", Check.INDEX, x -> x.forget(3));
        unchanged("runScript(1, -1)", Check.ARGUMENT, x -> x.runScript(1, -1));
        unchanged("runScript(1, 100000)", Check.ARGUMENT, x -> x.runScript(1, 100000));
        unchanged("save(2)", Check.INDEX, x -> x.save(2));
        unchanged("restore(2)", Check.INDEX, x -> x.restore(2));
    }

    private static void wrongStatesChangeNothing() {
        Check.says("EXCEPTIONS", "A call that throws an exception changes nothing.");
        unchanged("append to 100", ExceptionsTest::fullText, Check.STATE, x -> x.append('1'));
        unchanged("a 13th point", ExceptionsTest::fullStroke, Check.STATE, x -> x.point(5, 5));
        unchanged("a 4th stroke", ExceptionsTest::threeStrokes, Check.STATE, x -> x.point(5, 5));
        unchanged("the 41st sign", ExceptionsTest::fortySigns, Check.STATE, x -> x.point(60, 19));
        unchanged("the sign 4 as the 41st", ExceptionsTest::fortySignsLifted, Check.STATE, x -> x.point(60, 20));
        String[] texts = {"", "1,1-", "1,1/2,2/3,3/4,4", Scenes.TWELVE + "-1,1", Scenes.FORTY + "/1,1",
            "0,0-60,60-0,0-60,60-60,19"};
        for (String text : texts) {
            unchanged("draw '" + text + "'", () -> without(text), Check.STATE, x -> x.draw());
        }
        unchanged("draw", Scenes::used, Check.STATE, x -> x.draw());
        unchanged("learn without strokes", ExceptionsTest::noStrokes, Check.STATE, x -> x.learn(0));
        unchanged("a 17th sample", ExceptionsTest::sixteenSamples, Check.STATE, x -> x.learn(0));
        unchanged("the same signature", ExceptionsTest::likeSample, Check.STATE, x -> x.learn(3));
        unchanged("practise without strokes", ExceptionsTest::noStrokes, Check.STATE, x -> x.practise(0));
        unchanged("more than 40 signs at hand", ExceptionsTest::fortySigns, Check.STATE, x -> x.set(0, 8));
        unchanged("of a sample", ExceptionsTest::fortySignsOfSample, Check.STATE, x -> x.set(0, 8));
        unchanged("undo", ExceptionsTest::nothingRemembered, Check.STATE, x -> x.undo());
        unchanged("restore of nothing", Scenes::used, Check.STATE, x -> x.restore(1));
        unchanged("restore of nothing", Scenes::two, Check.STATE, x -> x.restore(0));
    }
}
