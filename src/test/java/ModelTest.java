import java.util.Random;

/** Long runs of calls, always the same ones, whose answers are compared with PlainModel's. */
public final class ModelTest {
    private static final int RUNS = 180;
    private static final int CALLS = 512;

    private final RuledStrokes x = new RuledStrokes();
    private final PlainModel m = new PlainModel();
    private final Random random;
    private final int run;
    /** How far points lie from one another at most: small figures are learned and mixed up more. */
    private final int spread;
    private final int names;
    private int lastX;
    private int lastY;
    private int calls;

    private ModelTest(int run) {
        this.run = run;
        random = new Random(run);
        spread = new int[] {4, 15, 60}[run % 3];
        names = new int[] {2, 4, 10}[run / 3 % 3];
    }

    public static void main(String[] args) {
        for (int run = 0; run < RUNS; run++) {
            ModelTest test = new ModelTest(run);
            while (test.calls < CALLS) {
                test.step();
            }
        }
        Check.end();
    }

    /** Leaves out what would come behind the last call that the document promises anything about. */
    private void same(String what, Check.Call mine, Check.Call plain) {
        if (calls >= CALLS) {
            return;
        }
        calls++;
        String got = Scenes.outcome(mine);
        String want = Scenes.outcome(plain);
        if (!got.equals(want)) {
            Check.tell("run " + run + ", call " + calls + ": " + what + " got " + got + ", due is " + want);
        }
    }

    /** Mostly from 0 to bound - 1, seldom around these bounds or far off. */
    private int number(int bound) {
        switch (random.nextInt(30)) {
            case 0:
                return -1;
            case 1:
                return bound;
            case 2:
                return random.nextInt();
            default:
                return random.nextInt(bound);
        }
    }

    private int near(int value) {
        int result = value + random.nextInt(2 * spread + 1) - spread;
        return random.nextInt(100) == 0 ? result : Math.max(0, Math.min(60, result));
    }

    private void step() {
        int kind = random.nextInt(100);
        if (kind < 40) {
            point();
        } else if (kind < 60) {
            act();
        } else if (kind < 72) {
            look();
        } else if (kind < 88) {
            ask();
        } else if (kind < 92) {
            text();
        } else if (kind < 98) {
            script();
        } else {
            slot();
        }
    }

    private void point() {
        int px = near(lastX);
        int py = near(lastY);
        lastX = Math.max(0, Math.min(60, px));
        lastY = Math.max(0, Math.min(60, py));
        same("point(" + px + ", " + py + ")", () -> x.point(px, py), () -> m.point(px, py));
    }

    private void act() {
        int name = random.nextInt(20) == 0 ? number(10) : random.nextInt(names);
        int s = number(16);
        int what = number(3);
        int v = what == 0 ? 4 + number(18) : what == 1 ? number(100) : number(21);
        switch (random.nextInt(12)) {
            case 0, 1:
                same("lift()", x::lift, m::lift);
                break;
            case 2, 3, 4, 5:
                same("learn(" + name + ")", () -> x.learn(name), () -> m.learn(name));
                break;
            case 6, 7, 8:
                same("practise(" + name + ")", () -> x.practise(name), () -> m.practise(name));
                break;
            case 9:
                same("forget(" + s + ")", () -> x.forget(s), () -> m.forget(s));
                break;
            case 10:
                same("set(" + what + ", " + v + ")", () -> x.set(what, v), () -> m.set(what, v));
                break;
            default:
                same("undo()", x::undo, m::undo);
        }
    }

    private void look() {
        int s = number(10);
        int k = number(20);
        switch (random.nextInt(6)) {
            case 0:
                same("about(" + s + ")", () -> x.about(s), () -> m.about(s));
                break;
            case 1:
                same("sign(" + k + ")", () -> x.sign(k), () -> m.sign(k));
                break;
            case 2:
                same("sample(" + s + ", " + k % 5 + ")", () -> x.sample(s, k % 5), () -> m.sample(s, k % 5));
                break;
            case 3:
                same("signOf(" + s + ", " + k + ")", () -> x.signOf(s, k), () -> m.signOf(s, k));
                break;
            case 4:
                same("practised(" + s + ", " + k % 4 + ")",
                        () -> x.practised(s, k % 4), () -> m.practised(s, k % 4));
                break;
            default:
                same("setting(" + k % 4 + ")", () -> x.setting(k % 4), () -> m.setting(k % 4));
        }
    }

    private void ask() {
        int s = number(10);
        int t = number(10);
        switch (random.nextInt(8)) {
            case 0, 1:
                same("read(" + s % 5 + ")", () -> x.read(s % 5), () -> m.read(s % 5));
                break;
            case 2:
                same("nearest(" + s + ")", () -> x.nearest(s), () -> m.nearest(s));
                break;
            case 3:
                same("between(" + s + ", " + t + ")", () -> x.between(s, t), () -> m.between(s, t));
                break;
            case 4:
                same("closest()", x::closest, m::closest);
                break;
            case 5:
                same("byOthers()", x::byOthers, m::byOthers);
                break;
            case 6:
                same("mirrored()", x::mirrored, m::mirrored);
                break;
            default:
                same("bestRuling()", x::bestRuling, m::bestRuling);
        }
    }

    /** Writes a text, which mostly is a figure, with a wrong character now and then. */
    private void text() {
        StringBuilder text = new StringBuilder();
        int strokes = 1 + random.nextInt(3);
        for (int stroke = 0; stroke < strokes; stroke++) {
            text.append(stroke > 0 ? "/" : "");
            int points = 1 + random.nextInt(random.nextInt(8) == 0 ? 13 : 4);
            for (int p = 0; p < points; p++) {
                lastX = Math.max(0, Math.min(60, near(lastX)));
                lastY = Math.max(0, Math.min(60, near(lastY)));
                text.append(p > 0 ? "-" : "").append(lastX).append(',').append(lastY);
            }
        }
        if (random.nextInt(3) == 0) {
            String wrong = "0123456789,-/,-/ x\u00ff";
            text.setCharAt(random.nextInt(text.length()), wrong.charAt(random.nextInt(wrong.length())));
        }
        same("clearText()", x::clearText, m::clearText);
        for (int k = 0; k < text.length(); k++) {
            int c = text.charAt(k);
            same("append(" + c + ")", () -> x.append(c), () -> m.append(c));
        }
        same("append", () -> x.append(256), () -> m.append(256));
        same("errorPosition() of " + text, x::errorPosition, m::errorPosition);
        same("draw() of " + text, x::draw, m::draw);
    }

    private long group() {
        long kind = random.nextInt(10);
        long name = random.nextInt(names);
        long low = random.nextInt(20);
        switch ((int) kind) {
            case 1:
                return 10000 + 100 * random.nextInt(62) + random.nextInt(62);
            case 2:
                return 20000;
            case 4, 7, 8:
                return kind * 10000 + low;
            case 5:
                return 50000 + 1000 * random.nextInt(4) + low;
            case 0:
                return random.nextInt(100000);
            default:
                return kind * 10000 + name * 1000;
        }
    }

    private void script() {
        long seed = random.nextLong();
        int turns = number(100);
        if (random.nextBoolean()) {
            same("simulate(" + seed + ", " + turns + ")",
                    () -> x.simulate(seed, turns), () -> m.simulate(seed, turns));
            return;
        }
        int n = number(5);
        long script = 0;
        for (int k = 0; k < Math.min(n, 4); k++) {
            script = script * 100000 + group();
        }
        long whole = random.nextInt(20) == 0 ? seed : script;
        same("runScript(" + n + ", " + whole + ")",
                () -> x.runScript(n, whole), () -> m.runScript(n, whole));
    }

    private void slot() {
        int slot = number(2);
        if (random.nextInt(3) > 0) {
            same("save(" + slot + ")", () -> x.save(slot), () -> m.save(slot));
        } else {
            same("restore(" + slot + ")", () -> x.restore(slot), () -> m.restore(slot));
        }
    }
}
