/** Promises 26 to 29: scripts, simulations, save slots. */
public final class ScriptsAndSlotsTest {
    public static void main(String[] args) {
        scriptArguments();
        commands();
        groupsThatFail();
        scriptsInTurn();
        simulations();
        simulatedTurns();
        saving();
        restoring();
        Check.end();
    }

    private static void scriptArguments() {
        RuledStrokes x = new RuledStrokes();
        Check.refused("n = 0", Check.ARGUMENT, () -> x.runScript(0, 0));
        Check.refused("n = 4", Check.ARGUMENT, () -> x.runScript(4, 0));
        Check.refused("n = -1", Check.ARGUMENT, () -> x.runScript(-1, 20000));
        Check.refused("negative", Check.ARGUMENT, () -> x.runScript(1, -1));
        Check.refused("least", Check.ARGUMENT, () -> x.runScript(3, Long.MIN_VALUE));
        Check.refused("greatest", Check.ARGUMENT, () -> x.runScript(3, Long.MAX_VALUE));
        Check.refused("6 digits", Check.ARGUMENT, () -> x.runScript(1, 100000));
        Check.refused("11 digits", Check.ARGUMENT, () -> x.runScript(2, 10000000000L));
        Check.refused("16 digits", Check.ARGUMENT, () -> x.runScript(3, 1000000000000000L));
        Check.due("5 digits", x.runScript(1, 99999), 0);
        Check.due("10 digits", x.runScript(2, 9999999999L), 0);
        Check.due("15 digits", x.runScript(3, 999999999999999L), 0);
        Check.due("zeros before it", x.runScript(2, 20000), 0);
        Check.due("no digits", x.runScript(3, 0), 0);
    }

    /** Two samples, 0: name 3, 0000, and 1: name 7, 1111; at hand: 000, going on. */
    private static RuledStrokes prepared() {
        RuledStrokes x = new RuledStrokes();
        Check.learn(x, 3, "5,5-45,5");
        Check.learn(x, 7, "5,5-5,45");
        x.point(5, 5);
        x.point(35, 5);
        return x;
    }

    private static void succeeds(long group) {
        Check.due("script " + group, prepared().runScript(1, group), -1);
    }

    private static void fails(long group) {
        Check.due("script " + group, prepared().runScript(1, group), 0);
    }

    private static void commands() {
        succeeds(10000);
        succeeds(16060);
        fails(16100);
        fails(10061);
        fails(19999);
        succeeds(20000);
        succeeds(39000);
        succeeds(30000);
        succeeds(40000);
        succeeds(40001);
        fails(40002);
        fails(40099);
        succeeds(50005);
        fails(50004);
        succeeds(50020);
        fails(50021);
        succeeds(51000);
        succeeds(51099);
        fails(52000);
        succeeds(52020);
        fails(52021);
        fails(53005);
        succeeds(63000);
        fails(67000);
        fails(60000);
        succeeds(70000);
        succeeds(70002);
        fails(70003);
        succeeds(80002);
        succeeds(80099);
        fails(80001);
        fails(80000);
        succeeds(93000);
        fails(97000);
        Check.due("80099 without samples", new RuledStrokes().runScript(1, 80099), 0);
        Check.due("70000 without samples", new RuledStrokes().runScript(1, 70000), -1);
        Check.due("30000 without strokes", new RuledStrokes().runScript(1, 30000), 0);
        Check.due("90000 without strokes", new RuledStrokes().runScript(1, 90000), 0);
        Check.due("20000 without strokes", new RuledStrokes().runScript(1, 20000), -1);
    }

    private static void groupsThatFail() {
        fails(0);
        fails(1);
        fails(9999);
        fails(20001);
        fails(20010);
        fails(20100);
        fails(21000);
        fails(33001);
        fails(33010);
        fails(33100);
        fails(40101);
        fails(41001);
        fails(50105);
        fails(51900);
        fails(63001);
        fails(63010);
        fails(63100);
        fails(70100);
        fails(71000);
        fails(80102);
        fails(81002);
        fails(93001);
        fails(93010);
        fails(93100);
    }

    private static void scriptsInTurn() {
        RuledStrokes x = prepared();
        Check.due("point, learn what is like another", x.runScript(3, 145053200040000L), 1);
        Check.due("point, learn, forget the third", x.runScript(3, 145053300040002L), -1);
        Check.due("learn, three samples, learn", x.runScript(3, 390007000339000L), 2);
        Check.due("practise, practise", x.runScript(2, 9300093000L), 1);
        Check.due("lift, point, read", x.runScript(3, 200001050563000L), -1);
        Check.due("lift, point, near", x.runScript(3, 200001050580005L), -1);
        Check.due("point, near", x.runScript(2, 1050580005L), 1);
        Check.due("limit 1, read", x.runScript(2, 5100163000L), 1);
        Check.due("forget, forget, samples", x.runScript(3, 400004000070001L), 2);
        Check.due("forget the first, read as the other", x.runScript(2, 4000063000L), 1);
        Check.due("ruling 20, near", x.runScript(2, 5002080000L), 1);
        Check.due("the first one of several", x.runScript(3, 0L), 0);
        Check.due("the copy is new each time", x.runScript(1, 40001), -1);
        Check.due("samples", x.about(4), 2);
        Check.due("points", x.about(1), 2);
    }

    private static void simulations() {
        RuledStrokes x = new RuledStrokes();
        Check.refused("m = 0", Check.ARGUMENT, () -> x.simulate(1, 0));
        Check.refused("m = -1", Check.ARGUMENT, () -> x.simulate(1, -1));
        Check.refused("m = 100", Check.ARGUMENT, () -> x.simulate(1, 100));
        for (int i = 0; i < 20; i++) {
            x.set(1, 12);
        }
        Check.draw(x, "5,5-45,5");
        Check.learn(x, 3, "5,5-45,5");
        Check.draw(x, "5,5-45,5");
        x.practise(3);
        long seed = seedOf(2);
        Check.due("what was read right before does not count", x.simulate(seed, 1), 100);
    }

    /** A seed whose first r has this rest by 16, and beyond it this by 10. */
    private static long seedOf(int turn, int name) {
        for (long seed = 0; seed < 1000000; seed++) {
            int r = firstOf(seed);
            if (r % 16 == turn && (name < 0 || r / 16 % 10 == name)) {
                return seed;
            }
        }
        throw new AssertionError("no such seed");
    }

    private static long seedOf(int turn) {
        return seedOf(turn, -1);
    }

    private static int firstOf(long seed) {
        return (int) ((seed * 6364136223846793005L + 1442695040888963407L) >>> 33);
    }

    private static void simulatedTurns() {
        RuledStrokes x = prepared();
        Check.due("learn by another name", x.simulate(seedOf(0, 4), 1), 300);
        Check.due("practise, right", x.simulate(seedOf(1, 3), 1), 201);
        Check.due("practise, wrong", x.simulate(seedOf(1, 7), 1), 200);
        Check.due("lift", x.simulate(seedOf(2), 1), 200);
        for (int turn = 3; turn <= 15; turn++) {
            Check.due("point", x.simulate(seedOf(turn), 1), 200);
        }
        for (int i = 0; i < 10; i++) {
            x.point(35, 5);
        }
        for (int turn = 3; turn <= 15; turn++) {
            Check.due("point is left out, learn", x.simulate(seedOf(turn), 1), 300);
        }
        Check.draw(x, "5,5-45,5-46,5-46,5-46,5-46,5-46,5-46,5-46,5-46,5-46,5-46,5/1,1/1,1");
        Check.due("a fourth stroke is left out, learn", x.simulate(seedOf(5), 1), 300);
        RuledStrokes y = new RuledStrokes();
        Check.due("nothing to learn", y.simulate(seedOf(0), 1), 0);
        Check.due("nothing to practise", y.simulate(seedOf(1), 1), 0);
        for (long seed = -60; seed < 60; seed++) {
            int turns = 40 + (int) (seed & 63) % 60;
            Check.due("seed " + seed, y.simulate(seed, turns), new PlainModel().simulate(seed, turns));
        }
        Check.due("no turn is taken with the object itself", y.about(0) + y.about(4) + y.about(5), 0);
    }

    private static void saving() {
        RuledStrokes x = prepared();
        Check.refused("save(-1)", Check.INDEX, () -> x.save(-1));
        Check.refused("save(2)", Check.INDEX, () -> x.save(2));
        Check.due("save", x.save(0), 2);
        Check.refused("the other slot", Check.STATE, () -> x.restore(1));
        x.forget(0);
        Check.due("save in the other slot", x.save(1), 1);
        Check.due("save is no action", x.undo(), 6);
        Check.due("restore(1)", x.restore(1), 1);
        Check.due("restore(0)", x.restore(0), 2);
        x.forget(0);
        x.forget(0);
        Check.due("save again", x.save(0), 0);
        Check.due("restore again", x.restore(0), 0);
        Check.due("the other slot keeps it", x.restore(1), 1);
    }

    private static void restoring() {
        RuledStrokes x = prepared();
        Check.refused("restore(-1)", Check.INDEX, () -> x.restore(-1));
        Check.refused("restore(2)", Check.INDEX, () -> x.restore(2));
        Check.refused("restore of nothing", Check.STATE, () -> x.restore(0));
        Check.draw(x, "5,5-35,5");
        x.practise(3);
        x.set(0, 9);
        x.set(1, 8);
        x.set(2, 7);
        x.point(5, 5);
        x.point(45, 5);
        x.save(0);
        x.lift();
        x.point(1, 1);
        x.practise(1);
        x.set(0, 20);
        x.set(1, 21);
        x.set(2, 20);
        x.forget(0);
        Check.due("restore", x.restore(0), 2);
        Check.refused("no state is remembered", Check.STATE, x::undo);
        Check.due("settings", x.setting(0) * 100 + x.setting(1) * 10 + x.setting(2), 987);
        Check.due("signs", x.about(3), 5);
        Check.due("goes on", x.about(2), 1);
        Check.due("practised", x.about(5) * 10 + x.practised(3, 0), 11);
        Check.due("name", x.sample(0, 0), 3);
        Check.dueSignsOf("sample 0", x, 0, "00000");
        x.point(5, 5);
        Check.due("undo of what came behind it", x.undo(), 0);
        Check.due("restore once more", x.restore(0), 2);
    }
}
