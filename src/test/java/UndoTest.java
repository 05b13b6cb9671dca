/** The section ACTIONS AND UNDO of the document and promise 18: what is remembered. */
public final class UndoTest {
    private interface Action {
        void on(RuledStrokes x);
    }

    public static void main(String[] args) {
        changesCanBeUndone();
        state();
        eachCallIsAnAction();
        refusedCallsAreNone();
        undoIsNone();
        otherCallsAreNone();
        rememberedBefore();
        fourteenStates();
        ringOfStates();
        restoreIsNone();
        undo();
        undoReturns();
        undoRefused();
        Check.end();
    }

    private static void changesCanBeUndone() {
        Check.says("Terms", "Changes can be undone.");
        RuledStrokes x = Scenes.two();
        String before = Scenes.seen(x);
        x.point(45, 5);
        x.learn(3);
        x.forget(0);
        x.undo();
        x.undo();
        x.undo();
        Check.same("undone", Scenes.seen(x), before);
    }

    /** A call of each of the methods, all of which succeed with Scenes.two. */
    private static Action[] actions() {
        return new Action[] {x -> x.point(45, 5), x -> x.lift(), x -> drawKnown(x), x -> x.learn(3),
            x -> x.forget(0), x -> x.practise(3), x -> x.set(0, 20), x -> x.set(1, 0), x -> x.set(2, 20)};
    }

    private static void drawKnown(RuledStrokes x) {
        Scenes.draw(x, "7,7-55,55/1,1");
    }

    private static void state() {
        Check.says("ACTIONS AND UNDO", "The methods in the section \"actions\" change the state, which consists of "
                + "everything but the text and the save slots.");
        String before = Scenes.state(Scenes.two());
        int i = 0;
        for (Action action : actions()) {
            RuledStrokes x = Scenes.two();
            action.on(x);
            Check.due("action " + i + " changes something", before.equals(Scenes.state(x)) ? 0 : 1, 1);
            x.undo();
            Check.same("action " + i + " is undone", Scenes.state(x), before);
            i++;
        }
        RuledStrokes y = new RuledStrokes();
        Scenes.draw(y, "1,1-2,2");
        y.append('-');
        y.undo();
        Check.due("the text stays behind undo", y.clearText(), 8);
        y.lift();
        Scenes.write(y, "1,1");
        y.undo();
        Check.due("the text stays behind undo", y.clearText(), 3);
        y.point(5, 5);
        y.save(1);
        y.undo();
        Check.due("what is at hand", y.about(0), 0);
        y.restore(1);
        Check.due("the save slot stays behind undo", y.about(0), 1);
    }

    private static void eachCallIsAnAction() {
        Check.says("ACTIONS AND UNDO", "Each call of one of them that does not throw an exception is an action, also "
                + "if nothing becomes different (undo is none).");
        int i = 0;
        for (Action action : actions()) {
            RuledStrokes x = new RuledStrokes();
            Scenes.draw(x, "5,5");
            x.learn(3);
            x.point(5, 5);
            action.on(x);
            Check.due("action " + i, x.undo(), 3);
            i++;
        }
        RuledStrokes y = new RuledStrokes();
        y.lift();
        Check.due("lift without strokes", y.undo(), 0);
        for (int what = 0; what < 3; what++) {
            y.set(what, y.setting(what));
            Check.due("set to the same", y.undo(), 0);
        }
        Scenes.draw(y, "5,5");
        y.lift();
        y.lift();
        y.draw();
        Check.due("draw of the same", y.undo(), 3);
        Check.due("lift again", y.undo(), 2);
        Check.due("lift of what was lifted", y.undo(), 1);
    }

    private static void refusedCallsAreNone() {
        Check.says("ACTIONS AND UNDO", "Each call of one of them that does not throw an exception is an action");
        RuledStrokes x = new RuledStrokes();
        x.lift();
        Scenes.write(x, "x");
        Check.refused("point", Check.ARGUMENT, () -> x.point(61, 0));
        Check.refused("draw", Check.STATE, x::draw);
        Check.refused("learn", Check.STATE, () -> x.learn(0));
        Check.refused("learn", Check.ARGUMENT, () -> x.learn(10));
        Check.refused("forget", Check.INDEX, () -> x.forget(0));
        Check.refused("practise", Check.STATE, () -> x.practise(0));
        Check.refused("practise", Check.ARGUMENT, () -> x.practise(-1));
        Check.refused("set", Check.ARGUMENT, () -> x.set(2, 0));
        Check.due("lift is remembered alone", x.undo(), 0);
        Scenes.draw(x, Scenes.FORTY);
        Check.refused("set", Check.STATE, () -> x.set(0, 8));
        Check.refused("point", Check.STATE, () -> x.point(0, 0));
        Scenes.write(x, Scenes.FORTY + "/1,1");
        Check.refused("draw", Check.STATE, x::draw);
        Check.due("draw is remembered alone", x.undo(), 0);
        Check.refused("undo", Check.STATE, x::undo);
        Check.due("what was refused is not redone", x.about(0), 0);
    }

    private static void undoIsNone() {
        Check.says("ACTIONS AND UNDO", "(undo is none)");
        RuledStrokes x = new RuledStrokes();
        for (int i = 1; i <= 5; i++) {
            x.set(1, i);
        }
        for (int left = 4; left >= 0; left--) {
            Check.due("undo", x.undo(), left);
            Check.due("limit", x.setting(1), left == 0 ? 12 : left);
        }
        Check.refused("undo", Check.STATE, x::undo);
    }

    private static void otherCallsAreNone() {
        Check.says("ACTIONS AND UNDO", "The methods in the section \"actions\" change the state");
        RuledStrokes x = Scenes.two();
        int before = x.undo();
        x.point(35, 5);
        x.append('1');
        x.errorPosition();
        x.clearText();
        x.read(0);
        x.nearest(0);
        x.closest();
        x.byOthers();
        x.bestRuling();
        x.mirrored();
        x.runScript(1, 20000);
        x.simulate(1, 9);
        x.save(0);
        Check.due("the point is the last action", x.undo(), before);
    }

    private static void rememberedBefore() {
        Check.says("ACTIONS AND UNDO", "Before each action, the state is remembered.");
        int i = 0;
        for (Action action : actions()) {
            RuledStrokes x = Scenes.two();
            x.set(0, 9);
            x.set(1, 13);
            x.set(2, 2);
            String before = Scenes.state(x);
            action.on(x);
            x.undo();
            Check.same("before action " + i, Scenes.state(x), before);
            i++;
        }
    }

    private static void fourteenStates() {
        Check.says("ACTIONS AND UNDO", "At most 14 states are remembered; when one more is remembered, the oldest one "
                + "is forgotten.");
        for (int actions = 1; actions <= 32; actions++) {
            RuledStrokes x = new RuledStrokes();
            for (int i = 1; i <= actions; i++) {
                x.set(1, 50 + i);
            }
            int remembered = Math.min(actions, 14);
            for (int k = 1; k <= remembered; k++) {
                int before = actions - k;
                Check.due(actions + " actions: undo " + k, x.undo(), remembered - k);
                Check.due(actions + " actions: limit " + k, x.setting(1), before == 0 ? 12 : 50 + before);
            }
            Check.refused(actions + " actions: no more", Check.STATE, x::undo);
        }
    }

    private static void ringOfStates() {
        Check.says("ACTIONS AND UNDO", "when one more is remembered, the oldest one is forgotten.");
        RuledStrokes x = new RuledStrokes();
        for (int i = 1; i <= 14; i++) {
            x.set(1, i);
        }
        for (int i = 0; i < 5; i++) {
            x.undo();
        }
        for (int i = 21; i <= 26; i++) {
            x.set(1, i);
        }
        int[] want = {25, 24, 23, 22, 21, 9, 8, 7, 6, 5, 4, 3, 2, 1};
        for (int k = 0; k < 14; k++) {
            Check.due("undo", x.undo(), 13 - k);
            Check.due("limit", x.setting(1), want[k]);
        }
        Check.refused("the first one is forgotten", Check.STATE, x::undo);
        Check.due("limit", x.setting(1), 1);
    }

    private static void restoreIsNone() {
        Check.says("ACTIONS AND UNDO", "restore is not an action.");
        RuledStrokes x = new RuledStrokes();
        x.save(0);
        x.restore(0);
        Check.refused("undo behind restore", Check.STATE, x::undo);
        x.point(5, 5);
        x.restore(0);
        x.lift();
        Check.due("only what comes behind it", x.undo(), 0);
        Check.due("strokes", x.about(0), 0);
    }

    private static void undo() {
        Check.says("Promise 18", "Takes back the last action that is remembered.");
        RuledStrokes x = new RuledStrokes();
        x.set(1, 50);
        x.set(1, 51);
        x.undo();
        Check.due("the last", x.setting(1), 50);
        x.set(1, 52);
        x.undo();
        Check.due("what came behind undo", x.setting(1), 50);
        x.undo();
        Check.due("the first", x.setting(1), 12);
        RuledStrokes y = new RuledStrokes();
        y.point(5, 5);
        y.point(45, 5);
        y.lift();
        y.learn(3);
        y.undo();
        Check.dueAbout("learn", y, 1, 2, 0, 4, 0);
        y.undo();
        Check.dueAbout("lift: the stroke goes on again", y, 1, 2, 1, 4, 0);
        Check.due("with the next point", y.point(5, 5), 8);
        y.undo();
        y.undo();
        Check.dueAbout("the second point", y, 1, 1, 1, 0, 0);
        y.undo();
        Check.dueAbout("the first point", y, 0, 0, 0, 0, 0);
    }

    private static void undoReturns() {
        Check.says("Promise 18", "Returns how many states are still remembered.");
        RuledStrokes x = new RuledStrokes();
        x.lift();
        Check.due("of 1", x.undo(), 0);
        x.lift();
        x.lift();
        Check.due("of 2", x.undo(), 1);
        for (int i = 0; i < 12; i++) {
            x.lift();
        }
        Check.due("of 13", x.undo(), 12);
        x.lift();
        x.lift();
        Check.due("of 14", x.undo(), 13);
        for (int i = 0; i < 5; i++) {
            x.lift();
        }
        Check.due("of 14, some being forgotten", x.undo(), 13);
    }

    private static void undoRefused() {
        Check.says("Promise 18", "Throws `IllegalStateException` if none is remembered");
        RuledStrokes x = new RuledStrokes();
        Check.refused("new", Check.STATE, x::undo);
        x.append('1');
        x.save(0);
        Check.refused("without an action", Check.STATE, x::undo);
        x.lift();
        x.undo();
        Check.refused("all are taken back", Check.STATE, x::undo);
        Check.refused("still", Check.STATE, x::undo);
        for (int i = 0; i < 20; i++) {
            x.lift();
        }
        x.restore(0);
        Check.refused("restored", Check.STATE, x::undo);
        x.lift();
        Check.due("and again an action", x.undo(), 0);
    }
}
