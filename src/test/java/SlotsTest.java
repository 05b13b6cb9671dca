/** Promises 28 and 29: save slots. */
public final class SlotsTest {
    public static void main(String[] args) {
        save();
        saveReturns();
        saveRefused();
        restore();
        restoreForgetsStates();
        slotKeepsIt();
        restoreReturns();
        restoreRefused();
        restoreOfNothing();
        Check.end();
    }

    private static void save() {
        Check.says("Promise 28", "Stores the present state in a save slot.");
        Check.says("Promise 28", "`slot`: 0 or 1");
        for (int slot = 0; slot <= 1; slot++) {
            RuledStrokes x = Scenes.used();
            String saved = Scenes.state(x);
            x.save(slot);
            x.lift();
            x.practise(0);
            x.forget(0);
            x.restore(slot);
            Check.same("in slot " + slot, Scenes.state(x), saved);
        }
        RuledStrokes y = Scenes.two();
        y.save(0);
        y.forget(0);
        y.save(1);
        y.forget(0);
        y.restore(1);
        Check.due("slot 1 is another one", y.about(4), 1);
        y.restore(0);
        Check.due("slot 0 is as it was", y.about(4), 2);
        y.forget(0);
        y.forget(0);
        y.save(0);
        y.point(5, 5);
        y.restore(0);
        Check.due("the last that was saved", y.about(4), 0);
        RuledStrokes z = Scenes.two();
        z.save(0);
        Check.due("save is no action", z.undo(), 5);
        z.restore(0);
        Check.due("undo leaves what was saved", z.about(1), 2);
    }

    private static void saveReturns() {
        Check.says("Promise 28", "Returns the number of samples.");
        for (int samples = 0; samples <= 16; samples++) {
            Check.due("save(0)", Scenes.withSamples(samples).save(0), samples);
            Check.due("save(1)", Scenes.withSamples(samples).save(1), samples);
        }
    }

    private static void saveRefused() {
        Check.says("Promise 28", "Throws `IndexOutOfBoundsException` if there is no such save slot");
        RuledStrokes x = Scenes.two();
        for (int slot : new int[] {-1, 2, 3, Integer.MIN_VALUE, Integer.MAX_VALUE}) {
            Check.refused("save(" + slot + ")", Check.INDEX, () -> x.save(slot));
        }
        Check.refused("nothing is saved", Check.STATE, () -> x.restore(0));
        Check.refused("nothing is saved", Check.STATE, () -> x.restore(1));
    }

    private static void restore() {
        Check.says("Promise 29", "Replaces the state by the one in a save slot, and forgets all remembered states.");
        Check.says("Promise 29", "`slot`: 0 or 1");
        for (int slot = 0; slot <= 1; slot++) {
            RuledStrokes x = Scenes.used();
            x.save(slot);
            x.lift();
            x.point(1, 1);
            x.practise(3);
            x.set(0, 20);
            x.set(1, 21);
            x.set(2, 20);
            x.forget(0);
            x.point(7, 7);
            x.lift();
            x.restore(slot);
            Check.same("restored from " + slot, Scenes.state(x), Scenes.state(Scenes.used()));
            Check.due("the stroke goes on", x.point(5, 5), 8);
        }
        RuledStrokes y = new RuledStrokes();
        y.save(0);
        Scenes.draw(y, Scenes.FORTY);
        y.learn(0);
        Scenes.write(y, "1,1-");
        y.restore(0);
        Check.same("a new one", Scenes.state(y), Scenes.state(new RuledStrokes()));
        Check.due("the text stays", y.clearText(), 4);
    }

    private static void restoreForgetsStates() {
        Check.says("Promise 29", "and forgets all remembered states.");
        for (int actions = 0; actions <= 20; actions++) {
            RuledStrokes x = new RuledStrokes();
            x.save(1);
            for (int i = 0; i < actions; i++) {
                x.set(1, i);
            }
            x.restore(1);
            Check.refused("behind " + actions + " actions", Check.STATE, x::undo);
            x.set(1, 77);
            x.set(1, 78);
            Check.due("only what comes behind it", x.undo(), 1);
            Check.due("limit", x.setting(1), 77);
            Check.due("only what comes behind it", x.undo(), 0);
            Check.due("limit", x.setting(1), 12);
            Check.refused("no more", Check.STATE, x::undo);
        }
    }

    private static void slotKeepsIt() {
        Check.says("Promise 29", "The save slot keeps it.");
        for (int slot = 0; slot <= 1; slot++) {
            RuledStrokes x = Scenes.two();
            String saved = Scenes.state(x);
            x.save(slot);
            for (int i = 0; i < 3; i++) {
                x.forget(0);
                x.point(45, 5);
                x.set(0, 7 + i);
                x.restore(slot);
                Check.same("restored again", Scenes.state(x), saved);
            }
        }
    }

    private static void restoreReturns() {
        Check.says("Promise 29", "Returns the number of samples then.");
        for (int samples = 0; samples <= 16; samples++) {
            RuledStrokes x = Scenes.withSamples(samples);
            x.save(samples % 2);
            if (samples > 0) {
                x.forget(0);
            } else {
                x.point(5, 5);
                x.learn(0);
            }
            Check.due("restore", x.restore(samples % 2), samples);
        }
    }

    private static void restoreRefused() {
        Check.says("Promise 29", "Throws `IndexOutOfBoundsException` if there is no such save slot");
        RuledStrokes x = Scenes.two();
        for (int slot : new int[] {-1, 2, 3, Integer.MIN_VALUE, Integer.MAX_VALUE}) {
            Check.refused("nothing saved: restore(" + slot + ")", Check.INDEX, () -> x.restore(slot));
        }
        x.save(0);
        x.save(1);
        for (int slot : new int[] {-1, 2, 3, Integer.MIN_VALUE, Integer.MAX_VALUE}) {
            Check.refused("restore(" + slot + ")", Check.INDEX, () -> x.restore(slot));
        }
        Check.due("the states are remembered still", x.undo(), 5);
    }

    private static void restoreOfNothing() {
        Check.says("Promise 29", "Throws `IllegalStateException` if nothing has been saved in it");
        RuledStrokes x = Scenes.two();
        Check.refused("restore(0)", Check.STATE, () -> x.restore(0));
        Check.refused("restore(1)", Check.STATE, () -> x.restore(1));
        x.save(1);
        Check.refused("the other slot", Check.STATE, () -> x.restore(0));
        Check.due("the states are remembered still", x.undo(), 5);
        Check.due("restore(1)", x.restore(1), 2);
        RuledStrokes y = Scenes.two();
        y.save(0);
        Check.refused("the other slot", Check.STATE, () -> y.restore(1));
        Check.due("restore(0)", y.restore(0), 2);
    }
}
