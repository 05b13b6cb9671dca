import java.util.Random;

/** Promises 26 and 27: scripts, simulations. */
public final class ScriptsTest {
    public static void main(String[] args) {
        onACopy();
        oneToThreeCommands();
        highestGroupFirst();
        pointCommand();
        liftCommand();
        learnCommand();
        forgetCommand();
        setCommand();
        readCommand();
        samplesCommand();
        nearCommand();
        practiseCommand();
        exceptionsFail();
        otherGroupsFail();
        decimalNumbers();
        firstThatFails();
        scriptRefused();
        everyGroup();
        simulateOnACopy();
        seeds();
        turns();
        learnTurn();
        practiseTurn();
        liftTurn();
        pointTurn();
        leftOut();
        simulateReturns();
        simulateRefused();
        replayed();
        Check.end();
    }

    private static void due(RuledStrokes x, int n, long script, int want) {
        Check.due("runScript(" + n + ", " + script + ")", x.runScript(n, script), want);
    }

    /** With two samples, 0: name 3, 0000, and 1: name 7, 1111; at hand 000, which goes on. */
    private static void succeeds(long group) {
        due(Scenes.two(), 1, group, -1);
    }

    private static void fails(long group) {
        due(Scenes.two(), 1, group, 0);
    }

    private static void onACopy() {
        Check.says("Promise 26", "Runs a script on a copy of the state.");
        String untouched = Scenes.all(Scenes.used());
        long[] scripts = {105051050610507L, 200001050520000L, 330003300033000L, 400004000040000L, 500205100052020L,
            930001050593000L, 1L, 999999999999999L};
        for (long script : scripts) {
            RuledStrokes x = Scenes.used();
            x.runScript(3, script);
            Check.same("behind the script " + script, Scenes.all(x), untouched);
        }
        RuledStrokes y = Scenes.two();
        due(y, 3, 400004000070000L, -1);
        due(y, 1, 40001, -1);
        due(y, 2, 3300070003L, -1);
        due(y, 1, 70003, 0);
    }

    private static void oneToThreeCommands() {
        Check.says("Promise 26", "`n`: number of commands, 1 to 3");
        Check.says("Promise 26", "`script`: the commands, a number of at most 5 * n digits (0 or more)");
        due(Scenes.two(), 1, 20000, -1);
        due(Scenes.two(), 2, 2000020000L, -1);
        due(Scenes.two(), 3, 200002000020000L, -1);
        due(Scenes.two(), 1, 0, 0);
        due(Scenes.two(), 2, 0, 0);
        due(Scenes.two(), 3, 0, 0);
        due(Scenes.two(), 1, 99999, 0);
        due(Scenes.two(), 2, 9999999999L, 0);
        due(Scenes.two(), 3, 999999999999999L, 0);
    }

    private static void highestGroupFirst() {
        Check.says("Promise 26", "A script has 1 to 3 commands; each is a group of five decimal digits d1 to d5, and "
                + "the first command is the highest group of the number (with zeros before it, if it has fewer "
                + "digits).");
        due(Scenes.two(), 2, 2000000000L, 1);
        due(Scenes.two(), 2, 20000, 0);
        due(Scenes.two(), 3, 20000, 0);
        due(Scenes.two(), 3, 2000020000L, 0);
        due(Scenes.two(), 3, 200000000020000L, 1);
        due(Scenes.two(), 3, 200002000000000L, 2);
        due(Scenes.two(), 2, 7000220000L, -1);
        due(Scenes.two(), 2, 7000320000L, 0);
        due(Scenes.two(), 3, 330007000340002L, -1);
        due(Scenes.two(), 3, 400027000333000L, 0);
        due(Scenes.two(), 3, 700033300040002L, 0);
    }

    private static void pointCommand() {
        Check.says("Promise 26", "1 x x y y: point(xx, yy).");
        due(Scenes.two(), 2, 1450580000L, -1);
        due(Scenes.two(), 2, 1360580000L, 1);
        due(Scenes.two(), 2, 1360580002L, -1);
        due(Scenes.two(), 3, 105051054580000L, 2);
        RuledStrokes x = new RuledStrokes();
        Scenes.learn(x, 1, Scenes.figure("0011"));
        x.point(5, 5);
        due(x, 2, 1250580004L, -1);
        due(x, 2, 1250580003L, 1);
        due(x, 3, 125051252580000L, -1);
        due(x, 3, 105251252580000L, 2);
        succeeds(10000);
        succeeds(16000);
        succeeds(10060);
        succeeds(16060);
        fails(16100);
        fails(10061);
        fails(19900);
        fails(10099);
    }

    private static void liftCommand() {
        Check.says("Promise 26", "2 0 0 0 0: lift().");
        succeeds(20000);
        due(new RuledStrokes(), 1, 20000, -1);
        RuledStrokes x = new RuledStrokes();
        Scenes.learn(x, 2, Scenes.figure("4"));
        x.point(5, 5);
        due(x, 3, 200001050580000L, -1);
        due(x, 3, 105051050580000L, 2);
        due(x, 3, 200002000080003L, -1);
    }

    private static void learnCommand() {
        Check.says("Promise 26", "3 n 0 0 0: learn(n).");
        for (int name = 0; name <= 9; name++) {
            succeeds(30000 + 1000 * name);
            RuledStrokes x = new RuledStrokes();
            x.point(5, 5);
            due(x, 3, 300006000070001L + 1000L * name * 10000000000L + 1000L * name * 100000L, -1);
            due(x, 2, 3000060000L + 100000000L * name + 1000L * ((name + 1) % 10), 1);
        }
        due(Scenes.two(), 2, 3300070003L, -1);
        due(Scenes.two(), 2, 3300033000L, 1);
    }

    private static void forgetCommand() {
        Check.says("Promise 26", "4 0 0 s s: forget(ss).");
        succeeds(40000);
        succeeds(40001);
        fails(40002);
        due(Scenes.two(), 2, 4000070002L, 1);
        due(Scenes.two(), 2, 4000170001L, -1);
        due(Scenes.two(), 2, 4000063000L, 1);
        due(Scenes.two(), 2, 4000067000L, -1);
        due(Scenes.two(), 2, 4000163000L, -1);
        due(Scenes.two(), 2, 4000140001L, 1);
        due(Scenes.withSamples(16), 1, 40015, -1);
        due(Scenes.withSamples(16), 1, 40016, 0);
    }

    private static void setCommand() {
        Check.says("Promise 26", "5 w 0 v v: set(w, vv).");
        int[] right = {50005, 50020, 51000, 51099, 52001, 52020};
        for (int group : right) {
            succeeds(group);
        }
        int[] wrong = {50004, 50021, 52000, 52021, 53005, 59010, 50000};
        for (int group : wrong) {
            fails(group);
        }
        due(Scenes.two(), 2, 5100263000L, -1);
        due(Scenes.two(), 2, 5100163000L, 1);
        due(Scenes.two(), 2, 5200663000L, -1);
        due(Scenes.two(), 2, 5200763000L, 1);
        due(Scenes.two(), 2, 5002080002L, -1);
        due(Scenes.two(), 3, 500201450580000L, -1);
        due(Scenes.two(), 2, 5000580001L, 1);
        RuledStrokes x = new RuledStrokes();
        Scenes.learn(x, 0, Scenes.FORTY);
        due(x, 1, 50009, -1);
        due(x, 1, 50008, 0);
    }

    private static void readCommand() {
        Check.says("Promise 26", "6 n 0 0 0: succeeds if the figure at hand is read as n.");
        for (int name = 0; name <= 9; name++) {
            due(Scenes.two(), 1, 60000 + 1000 * name, name == 3 ? -1 : 0);
            due(new RuledStrokes(), 1, 60000 + 1000 * name, 0);
        }
        RuledStrokes x = Scenes.two();
        x.set(2, 7);
        due(x, 1, 63000, 0);
        x.set(2, 6);
        due(x, 1, 63000, -1);
        x.set(1, 1);
        due(x, 1, 63000, 0);
        RuledStrokes y = new RuledStrokes();
        Scenes.learn(y, 0, "5,5");
        due(y, 1, 60000, -1);
    }

    private static void samplesCommand() {
        Check.says("Promise 26", "7 0 0 n n: succeeds if there are at least nn samples.");
        succeeds(70000);
        succeeds(70001);
        succeeds(70002);
        fails(70003);
        fails(70099);
        due(new RuledStrokes(), 1, 70000, -1);
        due(new RuledStrokes(), 1, 70001, 0);
        due(Scenes.withSamples(16), 1, 70016, -1);
        due(Scenes.withSamples(16), 1, 70017, 0);
    }

    private static void nearCommand() {
        Check.says("Promise 26", "8 0 0 n n: succeeds if the nearest sample has a distance of at most nn (without "
                + "samples it fails).");
        fails(80000);
        fails(80001);
        succeeds(80002);
        succeeds(80003);
        succeeds(80099);
        due(new RuledStrokes(), 1, 80000, 0);
        due(new RuledStrokes(), 1, 80099, 0);
        RuledStrokes x = new RuledStrokes();
        Scenes.learn(x, 0, "5,5");
        due(x, 1, 80000, -1);
        Scenes.draw(x, Scenes.FORTY);
        due(x, 1, 80079, 0);
        due(x, 1, 80080, -1);
        RuledStrokes y = Scenes.two();
        y.set(1, 0);
        y.set(2, 20);
        due(y, 1, 80002, -1);
    }

    private static void practiseCommand() {
        Check.says("Promise 26", "9 n 0 0 0: practise(n); succeeds if it returns 0.");
        for (int name = 0; name <= 9; name++) {
            due(Scenes.two(), 1, 90000 + 1000 * name, name == 3 ? -1 : 0);
            due(new RuledStrokes(), 1, 90000 + 1000 * name, 0);
        }
        due(Scenes.two(), 2, 9300093000L, 1);
        due(Scenes.two(), 3, 930001050593000L, 2);
        RuledStrokes x = Scenes.two();
        x.set(2, 7);
        due(x, 1, 93000, 0);
        x.set(2, 6);
        x.set(1, 1);
        due(x, 1, 93000, 0);
        x.set(1, 2);
        due(x, 1, 93000, -1);
    }

    private static void exceptionsFail() {
        Check.says("Promise 26", "The commands 1 to 5 and 9 fail if the method would throw an exception; so does any "
                + "other group (also one with another digit where a 0 is written).");
        RuledStrokes full = new RuledStrokes();
        for (int i = 0; i < 12; i++) {
            full.point(5, 5);
        }
        due(full, 1, 10505, 0);
        due(full, 2, 2000010505L, -1);
        RuledStrokes strokes = new RuledStrokes();
        Scenes.draw(strokes, "5,5/5,5/5,5");
        due(strokes, 1, 10505, 0);
        RuledStrokes signs = new RuledStrokes();
        for (int i = 0; i < 4; i++) {
            signs.point(i % 2 * 60, i % 2 * 60);
        }
        due(signs, 1, 16019, 0);
        due(signs, 1, 16020, -1);
        due(signs, 3, 160202000010505L, 2);
        due(signs, 1, 50008, 0);
        RuledStrokes empty = new RuledStrokes();
        due(empty, 1, 30000, 0);
        due(empty, 1, 90000, 0);
        due(empty, 1, 40000, 0);
        RuledStrokes samples = Scenes.withSamples(16);
        samples.point(5, 5);
        due(samples, 1, 30000, 0);
        due(samples, 2, 4000130000L, -1);
        RuledStrokes like = Scenes.two();
        like.point(45, 5);
        due(like, 1, 33000, -1);
        due(like, 1, 34000, 0);
    }

    private static void otherGroupsFail() {
        Check.says("Promise 26", "so does any other group (also one with another digit where a 0 is written).");
        for (int group = 0; group <= 9999; group += 1111) {
            fails(group);
        }
        fails(1);
        fails(3000);
        for (int digit = 1; digit <= 9; digit++) {
            for (int place = 1; place <= 1000; place *= 10) {
                fails(20000 + digit * place);
            }
            for (int place = 1; place <= 100; place *= 10) {
                fails(33000 + digit * place);
                fails(63000 + digit * place);
                fails(93000 + digit * place);
            }
            fails(51012 + digit * 100);
            for (int place = 100; place <= 1000; place *= 10) {
                fails(40000 + digit * place);
                fails(70000 + digit * place);
                fails(80099 + digit * place);
            }
        }
    }

    private static void decimalNumbers() {
        Check.says("Promise 26", "xx, yy, ss, vv and nn are decimal numbers.");
        for (int k = 0; k <= 60; k++) {
            RuledStrokes x = new RuledStrokes();
            Scenes.learn(x, 1, "5,5");
            x.set(0, 5);
            x.point(k, 60 - k);
            due(x, 2, (10060L + 99 * k) * 100000 + 80000, -1);
            due(x, 2, (10060L + 99 * (k < 30 ? k + 10 : k - 10)) * 100000 + 80000, 1);
        }
        for (int s = 0; s < 16; s++) {
            RuledStrokes x = Scenes.withSamples(16);
            Scenes.draw(x, Scenes.figure(Scenes.signsOfSample(s)));
            for (int forgotten = 0; forgotten < 16; forgotten++) {
                due(x, 2, (40000L + forgotten) * 100000 + 80000, forgotten == s ? 1 : -1);
            }
            due(x, 1, 70016, -1);
        }
        for (int cost = 2; cost <= 21; cost++) {
            RuledStrokes x = new RuledStrokes();
            Scenes.learn(x, 4, "5,5");
            Scenes.draw(x, Scenes.figure(Scenes.costing(cost)));
            for (int nn = 0; nn <= 99; nn++) {
                due(x, 1, 80000 + nn, cost <= nn ? -1 : 0);
                due(x, 2, (51000L + nn) * 100000 + 64000, cost <= nn ? -1 : 1);
            }
        }
        for (int samples = 0; samples <= 16; samples++) {
            RuledStrokes x = Scenes.withSamples(samples);
            for (int nn = 0; nn <= 20; nn++) {
                due(x, 1, 70000 + nn, nn <= samples ? -1 : 0);
            }
        }
    }

    private static void firstThatFails() {
        Check.says("Promise 26", "Returns the index, from 0, of the first command that fails; NONE if all succeed.");
        due(Scenes.two(), 1, 20000, -1);
        due(Scenes.two(), 1, 0, 0);
        due(Scenes.two(), 2, 2000000000L, 1);
        due(Scenes.two(), 2, 0, 0);
        due(Scenes.two(), 3, 200002000000000L, 2);
        due(Scenes.two(), 3, 200000000000000L, 1);
        due(Scenes.two(), 3, 0, 0);
        due(Scenes.two(), 3, 20000L, 0);
        due(Scenes.two(), 3, 145053200040000L, 1);
        due(Scenes.two(), 3, 145053300040002L, -1);
        due(Scenes.two(), 3, 390007000339000L, 2);
        due(Scenes.two(), 3, 200001050563000L, -1);
    }

    private static void scriptRefused() {
        Check.says("Promise 26", "Throws `IllegalArgumentException` if n is out of range, or if script is negative or "
                + "has more than 5 * n digits");
        RuledStrokes x = Scenes.two();
        for (int n : new int[] {0, 4, -1, Integer.MIN_VALUE, Integer.MAX_VALUE}) {
            Check.refused("n = " + n, Check.ARGUMENT, () -> x.runScript(n, 20000));
            Check.refused("n = " + n, Check.ARGUMENT, () -> x.runScript(n, 0));
        }
        long[] tooLong = {100000L, 10000000000L, 1000000000000000L};
        for (int n = 1; n <= 3; n++) {
            int commands = n;
            for (long script : new long[] {-1, -20000, Long.MIN_VALUE, tooLong[n - 1], 2 * tooLong[n - 1],
                Long.MAX_VALUE, 1L << 62}) {
                Check.refused("runScript(" + n + ", " + script + ")", Check.ARGUMENT,
                        () -> x.runScript(commands, script));
            }
            due(x, n, tooLong[n - 1] - 1, 0);
        }
        Check.refused("another group", Check.ARGUMENT, () -> x.runScript(1, 2000020000L));
        Check.refused("a group of one more digit", Check.ARGUMENT, () -> x.runScript(1, 120000));
    }

    /** Each group alone, against the model. */
    private static void everyGroup() {
        Check.says("Promise 26", "each is a group of five decimal digits d1 to d5");
        PlainModel model = new PlainModel();
        int[][] points = {{5, 5}, {45, 5}, {5, 5}, {5, 45}, {5, 5}, {35, 5}};
        for (int i = 0; i < points.length; i++) {
            model.point(points[i][0], points[i][1]);
            if (i == 1 || i == 3) {
                model.learn(i == 1 ? 3 : 7);
            }
        }
        RuledStrokes x = Scenes.two();
        for (int group = 0; group <= 99999; group++) {
            if (group % 400 == 0) {
                x = Scenes.two();
            }
            due(x, 1, group, model.runScript(1, group));
        }
    }

    private static void simulateOnACopy() {
        Check.says("Promise 27", "Simulates m turns on a copy of the state.");
        String untouched = Scenes.all(Scenes.used());
        for (long seed = 0; seed < 20; seed++) {
            RuledStrokes x = Scenes.used();
            int answer = x.simulate(seed, 99);
            Check.due("again", x.simulate(seed, 99), answer);
            Check.same("behind simulate(" + seed + ", 99)", Scenes.all(x), untouched);
        }
    }

    /** What r is in the first turn. */
    private static int firstOf(long seed) {
        return (int) ((seed * 6364136223846793005L + 1442695040888963407L) >>> 33);
    }

    /** A seed whose first r has this rest by 16, and beyond it this by 10. */
    private static long seedOf(int turn, int name) {
        for (long seed = 0; seed < 1000000; seed++) {
            int r = firstOf(seed);
            if (r % 16 == turn && r / 16 % 10 == name) {
                return seed;
            }
        }
        throw new AssertionError("no such seed");
    }

    /** Plays the turns by calls of the methods; the answer that simulate owes. */
    private static int replay(RuledStrokes x, long seed, int m) {
        int before = x.about(6);
        long state = seed;
        for (int i = 0; i < m; i++) {
            state = state * 6364136223846793005L + 1442695040888963407L;
            int r = (int) (state >>> 33);
            if (r % 16 == 0) {
                Scenes.outcome(() -> x.learn(r / 16 % 10));
            } else if (r % 16 == 1) {
                Scenes.outcome(() -> x.practise(r / 16 % 10));
            } else if (r % 16 == 2) {
                x.lift();
            } else if (Scenes.isException(Scenes.outcome(() -> x.point(r / 16 % 61, r / 1024 % 61)))) {
                Scenes.outcome(() -> x.learn(r / 65536 % 10));
            }
        }
        return 100 * x.about(4) + x.about(6) - before;
    }

    private static void dueReplayed(Scenes.Scene scene, long seed, int m) {
        Check.due("simulate(" + seed + ", " + m + ")", scene.make().simulate(seed, m), replay(scene.make(), seed, m));
    }

    private static void seeds() {
        Check.says("Promise 27", "A long x starts as the seed.");
        Check.says("Promise 27", "`seed`: any long");
        Check.says("Promise 27", "Each turn first replaces x by x * 6364136223846793005L + 1442695040888963407L (with "
                + "long overflow), and r = (int) (x >>> 33) is computed.");
        long[] seeds = {0, 1, -1, Long.MAX_VALUE, Long.MIN_VALUE, Integer.MAX_VALUE, Integer.MIN_VALUE, 1L << 33,
            -1L << 33, 1442695040888963407L, 6364136223846793005L};
        for (long seed : seeds) {
            for (int m : new int[] {1, 2, 10, 99}) {
                dueReplayed(RuledStrokes::new, seed, m);
                dueReplayed(Scenes::two, seed, m);
                dueReplayed(() -> Scenes.withSamples(14), seed, m);
            }
        }
    }

    private static void turns() {
        Check.says("Promise 27", "`m`: number of turns, 1 to 99");
        long seed = seedOf(0, 4);
        Check.due("the first turn is a learn", Scenes.two().simulate(seed, 1), 300);
        for (int m = 1; m <= 99; m++) {
            dueReplayed(Scenes::two, 2026, m);
        }
    }

    private static void learnTurn() {
        Check.says("Promise 27", "By r % 16: 0: learn(r / 16 % 10).");
        for (int name = 0; name <= 9; name++) {
            long seed = seedOf(0, name);
            Check.due("learn(" + name + ")", Scenes.two().simulate(seed, 1), 300);
            RuledStrokes x = Scenes.two();
            x.point(45, 5);
            Check.due("learn(" + name + ") of what is like a sample of 3", x.simulate(seed, 1), name == 3 ? 300 : 200);
        }
    }

    private static void practiseTurn() {
        Check.says("Promise 27", "1: practise(r / 16 % 10).");
        for (int name = 0; name <= 9; name++) {
            long seed = seedOf(1, name);
            Check.due("practise(" + name + ")", Scenes.two().simulate(seed, 1), name == 3 ? 201 : 200);
            Check.due("without strokes", Scenes.withSamples(4).simulate(seed, 1), 400);
        }
    }

    private static void liftTurn() {
        Check.says("Promise 27", "2: lift().");
        for (int name = 0; name <= 9; name++) {
            long seed = seedOf(2, name);
            Check.due("lift", Scenes.two().simulate(seed, 1), 200);
            RuledStrokes full = fullStroke();
            Check.due("lift", full.simulate(seed, 1), 0);
            Check.due("then a point can begin a stroke", full.simulate(seedOfPointBehindLift(), 2), 0);
            Check.due("without lift it is left out", full.simulate(seedOf(5, name), 1), 100);
        }
    }

    private static RuledStrokes fullStroke() {
        RuledStrokes x = new RuledStrokes();
        for (int i = 0; i < 12; i++) {
            x.point(5, 5);
        }
        return x;
    }

    private static long seedOfPointBehindLift() {
        for (long seed = 0; seed < 1000000; seed++) {
            long second = seed * 6364136223846793005L + 1442695040888963407L;
            if (firstOf(seed) % 16 == 2 && firstOf(second) % 16 >= 3) {
                return seed;
            }
        }
        throw new AssertionError("no such seed");
    }

    private static void pointTurn() {
        Check.says("Promise 27", "3 to 15: point(r / 16 % 61, r / 1024 % 61).");
        RuledStrokes signs = new RuledStrokes();
        Scenes.draw(signs, Scenes.FORTY);
        for (int turn = 3; turn <= 15; turn++) {
            for (int name = 0; name <= 9; name++) {
                long seed = seedOf(turn, name);
                Check.due("point", Scenes.two().simulate(seed, 1), 200);
                Check.due("point, left out", signs.simulate(seed, 1), 100);
            }
        }
        for (long seed = 0; seed < 400; seed++) {
            dueByPlace(seed);
        }
    }

    /** With 36 to 40 signs at hand, the place of the point decides whether it is left out. */
    private static void dueByPlace(long seed) {
        int r = firstOf(seed);
        if (r % 16 < 3) {
            return;
        }
        for (int at = 40; at <= 60; at += 10) {
            RuledStrokes x = new RuledStrokes();
            x.point(0, 0);
            x.point(60, 60);
            x.point(0, 0);
            x.point(60, 60);
            x.point(at, at);
            int more = Math.abs(r / 16 % 61 / 10 - at / 10) + Math.abs(r / 1024 % 61 / 10 - at / 10);
            int signs = x.about(3) + more;
            Check.due("point with " + signs + " signs", x.simulate(seed, 1), signs > 40 ? 100 : 0);
        }
    }

    private static void leftOut() {
        Check.says("Promise 27", "What would throw an exception is left out; but if a point is left out, "
                + "learn(r / 65536 % 10) is called instead (which may be left out, too).");
        for (int turn = 0; turn <= 1; turn++) {
            for (int name = 0; name <= 9; name++) {
                Check.due("nothing to learn or practise", new RuledStrokes().simulate(seedOf(turn, name), 1), 0);
            }
        }
        for (int turn = 3; turn <= 15; turn++) {
            for (int name = 0; name <= 9; name++) {
                dueInstead(seedOf(turn, name));
            }
        }
    }

    /** A point is left out; what is learned instead by the name of the sample is a sample more. */
    private static void dueInstead(long seed) {
        int name = firstOf(seed) / 65536 % 10;
        Check.due("learn instead", fullStroke().simulate(seed, 1), 100);
        for (int known = 0; known <= 9; known++) {
            RuledStrokes x = new RuledStrokes();
            Scenes.learn(x, known, "5,5");
            for (int i = 0; i < 12; i++) {
                x.point(5, 5);
            }
            Check.due("learn by a name, like a sample of " + known, x.simulate(seed, 1), known == name ? 200 : 100);
        }
        RuledStrokes y = Scenes.withSamples(16);
        for (int i = 0; i < 12; i++) {
            y.point(5, 5);
        }
        Check.due("learn is left out, too", y.simulate(seed, 1), 1600);
    }

    private static void simulateReturns() {
        Check.says("Promise 27", "Returns 100 * (the samples at the end) + (how many figures were read right in "
                + "them).");
        RuledStrokes x = Scenes.two();
        x.practise(3);
        x.point(5, 5);
        x.point(35, 5);
        Check.due("what was read right before is not in them", x.simulate(seedOf(2, 0), 1), 200);
        Check.due("one was read right", x.simulate(seedOf(1, 3), 1), 201);
        int right = 0;
        int most = 0;
        Random random = new Random(27);
        for (int i = 0; i < 300; i++) {
            long seed = random.nextLong();
            RuledStrokes y = Scenes.withSamples(12);
            y.set(1, 99);
            int answer = y.simulate(seed, 99);
            right += answer % 100;
            most = Math.max(most, answer / 100);
            RuledStrokes z = Scenes.withSamples(12);
            z.set(1, 99);
            Check.due("simulate(" + seed + ", 99)", answer, replay(z, seed, 99));
        }
        Check.due("there were some that were read right", right > 20 ? 1 : 0, 1);
        Check.due("there were 16 samples", most, 16);
    }

    private static void simulateRefused() {
        Check.says("Promise 27", "Throws `IllegalArgumentException` if m is out of range");
        for (int m : new int[] {0, -1, 100, 101, Integer.MIN_VALUE, Integer.MAX_VALUE}) {
            Check.refused("m = " + m, Check.ARGUMENT, () -> new RuledStrokes().simulate(1, m));
            Check.refused("m = " + m, Check.ARGUMENT, () -> Scenes.two().simulate(Long.MIN_VALUE, m));
        }
        Check.due("m = 1", Scenes.two().simulate(seedOf(2, 0), 1), 200);
        Check.due("m = 99", Scenes.two().simulate(1, 99) >= 200 ? 1 : 0, 1);
    }

    private static void replayed() {
        Check.says("Promise 27", "Simulates m turns on a copy of the state.");
        for (long seed = -40; seed < 40; seed++) {
            dueReplayed(Scenes::used, seed * 1000003, 60);
        }
    }
}
