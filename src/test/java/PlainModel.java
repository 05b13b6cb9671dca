import java.util.ArrayList;
import java.util.HashMap;
import java.util.List;
import java.util.Map;
import java.util.regex.Pattern;

/**
 * What the document says, written once more in another way: states that never change, signatures
 * made anew each time from sorted places, distances by recursion, texts by patterns.
 */
final class PlainModel {
    private static final int NONE = -1;

    record Point(int x, int y) { }

    record Sample(int name, List<List<Point>> strokes) { }

    record State(List<List<Point>> hand, boolean open, List<Sample> samples, List<Integer> settings,
            List<List<Integer>> outcomes) { }

    record Crossing(double place, int kind, int sign) { }

    record Reading(int verdict, int name, int distance, int sample) { }

    private State now;
    private final List<State> remembered = new ArrayList<>();
    private final State[] slots = new State[2];
    private final StringBuilder text = new StringBuilder();

    PlainModel() {
        List<List<Integer>> outcomes = new ArrayList<>();
        for (int name = 0; name < 10; name++) {
            outcomes.add(List.of(0, 0, 0));
        }
        now = new State(List.of(), false, List.of(), List.of(10, 12, 1), outcomes);
    }

    private static void argument(boolean right) {
        if (!right) {
            throw new IllegalArgumentException();
        }
    }

    private static void state(boolean right) {
        if (!right) {
            throw new IllegalStateException();
        }
    }

    private static void index(boolean right) {
        if (!right) {
            throw new IndexOutOfBoundsException();
        }
    }

    private static boolean in(int value, int least, int greatest) {
        return value >= least && value <= greatest;
    }

    private static <T> List<T> with(List<T> list, int at, T value) {
        List<T> result = new ArrayList<>(list);
        if (at == result.size()) {
            result.add(value);
        } else {
            result.set(at, value);
        }
        return result;
    }

    private void act(State next) {
        remembered.add(now);
        if (remembered.size() > 14) {
            remembered.remove(0);
        }
        now = next;
    }

    // signatures and distances

    private static List<Integer> signs(List<List<Point>> strokes, int d) {
        List<Integer> signs = new ArrayList<>();
        for (int s = 0; s < strokes.size(); s++) {
            if (s > 0) {
                signs.add(4);
            }
            for (int i = 1; i < strokes.get(s).size(); i++) {
                signs.addAll(way(strokes.get(s).get(i - 1), strokes.get(s).get(i), d));
            }
        }
        return signs;
    }

    /** A line belongs to the cells behind it: it is crossed if one end is before it, one not. */
    private static List<Integer> way(Point a, Point b, int d) {
        List<Crossing> crossings = new ArrayList<>();
        for (int line = d; line <= 60; line += d) {
            if (a.x < line != b.x < line) {
                crossings.add(new Crossing((double) (line - a.x) / (b.x - a.x), 0, b.x > a.x ? 0 : 2));
            }
            if (a.y < line != b.y < line) {
                crossings.add(new Crossing((double) (line - a.y) / (b.y - a.y), 1, b.y > a.y ? 1 : 3));
            }
        }
        // Two places that differ do so by at least 1 / 3600.
        crossings.sort((p, q) -> Math.abs(p.place - q.place) < 1e-6
                ? p.kind - q.kind : Double.compare(p.place, q.place));
        return crossings.stream().map(Crossing::sign).toList();
    }

    /** The signs of the way from x and y to another point, one behind the other. */
    static String signsOfWay(int x, int y, int toX, int toY, int d) {
        StringBuilder signs = new StringBuilder();
        for (int sign : way(new Point(x, y), new Point(toX, toY), d)) {
            signs.append(sign);
        }
        return signs.toString();
    }

    private List<Integer> handSigns() {
        return signs(now.hand, now.settings.get(0));
    }

    private List<Integer> sampleSigns(int s) {
        return signs(now.samples.get(s).strokes, now.settings.get(0));
    }

    private static int distance(List<Integer> a, List<Integer> b) {
        return distance(a, b, 0, 0, new HashMap<>());
    }

    private static int distance(List<Integer> a, List<Integer> b, int i, int j, Map<Integer, Integer> known) {
        if (i == a.size() && j == b.size()) {
            return 0;
        }
        Integer before = known.get(i * 100 + j);
        if (before != null) {
            return before;
        }
        int least = Integer.MAX_VALUE;
        if (i < a.size()) {
            least = Math.min(least, alone(a.get(i)) + distance(a, b, i + 1, j, known));
        }
        if (j < b.size()) {
            least = Math.min(least, alone(b.get(j)) + distance(a, b, i, j + 1, known));
        }
        if (i < a.size() && j < b.size()) {
            least = Math.min(least, instead(a.get(i), b.get(j)) + distance(a, b, i + 1, j + 1, known));
        }
        known.put(i * 100 + j, least);
        return least;
    }

    private static int alone(int sign) {
        return sign == 4 ? 3 : 2;
    }

    private static int instead(int a, int b) {
        int[][] costs = {{0, 2, 3, 2, 5}, {2, 0, 2, 3, 5}, {3, 2, 0, 2, 5}, {2, 3, 2, 0, 5}, {5, 5, 5, 5, 0}};
        return costs[a][b];
    }

    private Reading reading(List<Integer> signs, List<Sample> samples) {
        int best = NONE;
        int least = NONE;
        List<Integer> distances = new ArrayList<>();
        for (Sample sample : samples) {
            distances.add(distance(signs, signs(sample.strokes, now.settings.get(0))));
        }
        for (int s = samples.size() - 1; s >= 0; s--) {
            if (best == NONE || distances.get(s) <= least) {
                best = s;
                least = distances.get(s);
            }
        }
        if (best == NONE || least > now.settings.get(1)) {
            return new Reading(2, NONE, least, best);
        }
        int name = samples.get(best).name;
        for (int s = 0; s < samples.size(); s++) {
            if (samples.get(s).name != name && distances.get(s) - least < now.settings.get(2)) {
                return new Reading(1, NONE, least, best);
            }
        }
        return new Reading(0, name, least, best);
    }

    // text

    int append(int c) {
        argument(in(c, 0, 255));
        state(text.length() < 100);
        text.append((char) c);
        return text.length();
    }

    int clearText() {
        int before = text.length();
        text.setLength(0);
        return before;
    }

    private static final String NUMBER = "(?:0|[1-9]|[1-5][0-9]|60)";
    private static final String POINT = NUMBER + "," + NUMBER;
    private static final String STROKE = POINT + "(?:-" + POINT + "){0,11}";
    private static final Pattern FIGURE = Pattern.compile(STROKE + "(?:/" + STROKE + "){0,2}");

    /** The first character by which what is there so far can't be the beginning of a figure. */
    int errorPosition() {
        if (FIGURE.matcher(text).matches()) {
            return NONE;
        }
        for (int i = 0; i < text.length(); i++) {
            var matcher = FIGURE.matcher(text.substring(0, i + 1));
            if (!matcher.matches() && !matcher.hitEnd()) {
                return i;
            }
        }
        return text.length();
    }

    // what there is

    private static int points(List<List<Point>> strokes) {
        return strokes.stream().mapToInt(List::size).sum();
    }

    private int outcomes(int what) {
        return now.outcomes.stream().mapToInt(of -> of.get(what)).sum();
    }

    int about(int what) {
        argument(in(what, 0, 7));
        int[] numbers = {now.hand.size(), points(now.hand), now.open ? 1 : 0, handSigns().size(),
            now.samples.size(), outcomes(0) + outcomes(1) + outcomes(2), outcomes(0), outcomes(1)};
        return numbers[what];
    }

    private static int signOr(List<Integer> signs, int k) {
        argument(k >= 0);
        return k < signs.size() ? signs.get(k) : NONE;
    }

    int sign(int k) {
        return signOr(handSigns(), k);
    }

    int sample(int s, int what) {
        index(in(s, 0, now.samples.size() - 1));
        argument(in(what, 0, 3));
        Sample sample = now.samples.get(s);
        int[] numbers = {sample.name, sample.strokes.size(), points(sample.strokes), sampleSigns(s).size()};
        return numbers[what];
    }

    int signOf(int s, int k) {
        index(in(s, 0, now.samples.size() - 1));
        return signOr(sampleSigns(s), k);
    }

    int practised(int name, int what) {
        argument(in(name, 0, 9) && in(what, 0, 2));
        return now.outcomes.get(name).get(what);
    }

    int setting(int what) {
        argument(in(what, 0, 2));
        return now.settings.get(what);
    }

    // actions

    int point(int x, int y) {
        argument(in(x, 0, 60) && in(y, 0, 60));
        List<List<Point>> strokes;
        if (now.open) {
            int last = now.hand.size() - 1;
            state(now.hand.get(last).size() < 12);
            List<Point> stroke = now.hand.get(last);
            strokes = with(now.hand, last, with(stroke, stroke.size(), new Point(x, y)));
        } else {
            state(now.hand.size() < 3);
            strokes = with(now.hand, now.hand.size(), List.of(new Point(x, y)));
        }
        state(signs(strokes, now.settings.get(0)).size() <= 40);
        act(new State(strokes, true, now.samples, now.settings, now.outcomes));
        return handSigns().size();
    }

    int lift() {
        act(new State(now.hand, false, now.samples, now.settings, now.outcomes));
        return now.hand.size();
    }

    int draw() {
        state(errorPosition() == NONE);
        List<List<Point>> strokes = new ArrayList<>();
        for (String stroke : text.toString().split("/")) {
            List<Point> points = new ArrayList<>();
            for (String point : stroke.split("-")) {
                String[] numbers = point.split(",");
                points.add(new Point(Integer.parseInt(numbers[0]), Integer.parseInt(numbers[1])));
            }
            strokes.add(points);
        }
        state(signs(strokes, now.settings.get(0)).size() <= 40);
        act(new State(strokes, false, now.samples, now.settings, now.outcomes));
        return handSigns().size();
    }

    int learn(int name) {
        argument(in(name, 0, 9));
        state(!now.hand.isEmpty() && now.samples.size() < 16);
        for (int s = 0; s < now.samples.size(); s++) {
            state(now.samples.get(s).name == name || !sampleSigns(s).equals(handSigns()));
        }
        int s = now.samples.size();
        List<Sample> samples = with(now.samples, s, new Sample(name, now.hand));
        act(new State(List.of(), false, samples, now.settings, now.outcomes));
        return s;
    }

    int forget(int s) {
        index(in(s, 0, now.samples.size() - 1));
        List<Sample> samples = new ArrayList<>(now.samples);
        samples.remove(s);
        act(new State(now.hand, now.open, samples, now.settings, now.outcomes));
        return samples.size();
    }

    int practise(int name) {
        argument(in(name, 0, 9));
        state(!now.hand.isEmpty());
        Reading reading = reading(handSigns(), now.samples);
        int what = reading.verdict != 0 ? 1 : reading.name == name ? 0 : 2;
        List<Integer> of = now.outcomes.get(name);
        List<List<Integer>> outcomes = with(now.outcomes, name, with(of, what, of.get(what) + 1));
        act(new State(List.of(), false, now.samples, now.settings, outcomes));
        return what;
    }

    private static boolean fits(List<List<Point>> strokes, int d) {
        return signs(strokes, d).size() <= 40;
    }

    int set(int what, int v) {
        argument(in(what, 0, 2));
        argument(what == 0 ? in(v, 5, 20) : what == 1 ? in(v, 0, 99) : in(v, 1, 20));
        if (what == 0) {
            state(fits(now.hand, v) && now.samples.stream().allMatch(sample -> fits(sample.strokes, v)));
        }
        int before = now.settings.get(what);
        act(new State(now.hand, now.open, now.samples, with(now.settings, what, v), now.outcomes));
        return before;
    }

    int undo() {
        state(!remembered.isEmpty());
        now = remembered.remove(remembered.size() - 1);
        return remembered.size();
    }

    // what would be

    int read(int what) {
        argument(in(what, 0, 3));
        Reading reading = reading(handSigns(), now.samples);
        int[] numbers = {reading.verdict, reading.name, reading.distance, reading.sample};
        return numbers[what];
    }

    int nearest(int k) {
        index(in(k, 0, now.samples.size() - 1));
        List<Integer> keys = new ArrayList<>();
        for (int s = 0; s < now.samples.size(); s++) {
            keys.add(distance(handSigns(), sampleSigns(s)) * 100 + s);
        }
        keys.sort(null);
        return 1000 * (keys.get(k) % 100) + keys.get(k) / 100;
    }

    int between(int s, int t) {
        index(in(s, 0, now.samples.size() - 1) && in(t, 0, now.samples.size() - 1));
        return distance(sampleSigns(s), sampleSigns(t));
    }

    /** The least distance of two with different names * 10000 + 100 * s + t, or NONE. */
    private int leastPair(int d) {
        int least = NONE;
        for (int t = 0; t < now.samples.size(); t++) {
            for (int s = 0; s < t; s++) {
                Sample one = now.samples.get(s);
                Sample other = now.samples.get(t);
                if (one.name != other.name) {
                    int key = distance(signs(one.strokes, d), signs(other.strokes, d)) * 10000 + 100 * s + t;
                    least = least == NONE ? key : Math.min(least, key);
                }
            }
        }
        return least;
    }

    int closest() {
        int least = leastPair(now.settings.get(0));
        return least == NONE ? NONE : least % 10000;
    }

    int byOthers() {
        int count = 0;
        for (int s = 0; s < now.samples.size(); s++) {
            List<Sample> others = new ArrayList<>(now.samples);
            others.remove(s);
            Reading reading = reading(sampleSigns(s), others);
            count += reading.verdict == 0 && reading.name == now.samples.get(s).name ? 1 : 0;
        }
        return count;
    }

    int bestRuling() {
        int best = NONE;
        int greatest = NONE;
        for (int d = 20; d >= 5; d--) {
            int ruling = d;
            int least = leastPair(ruling);
            boolean counts = now.samples.stream().allMatch(sample -> fits(sample.strokes, ruling));
            if (counts && least != NONE && least / 10000 >= greatest) {
                best = d;
                greatest = least / 10000;
            }
        }
        return best;
    }

    int mirrored() {
        List<List<Point>> strokes = new ArrayList<>();
        for (List<Point> stroke : now.hand) {
            strokes.add(stroke.stream().map(point -> new Point(60 - point.x, point.y)).toList());
        }
        List<Integer> signs = signs(strokes, now.settings.get(0));
        return signs.size() > 40 ? NONE : reading(signs, now.samples).name;
    }

    // scripts, simulations

    private interface Call {
        int answer();
    }

    private static boolean works(Call call) {
        try {
            call.answer();
            return true;
        } catch (IllegalArgumentException | IllegalStateException | IndexOutOfBoundsException e) {
            return false;
        }
    }

    private PlainModel copy() {
        PlainModel copy = new PlainModel();
        copy.now = now;
        return copy;
    }

    int runScript(int n, long script) {
        argument(in(n, 1, 3));
        argument(script >= 0 && Long.toString(script).length() <= 5 * n);
        String digits = Long.toString(script);
        digits = "0".repeat(5 * n - digits.length()) + digits;
        PlainModel copy = copy();
        for (int i = 0; i < n; i++) {
            if (!copy.succeeds(digits.substring(5 * i, 5 * i + 5))) {
                return i;
            }
        }
        return NONE;
    }

    private boolean succeeds(String g) {
        int second = g.charAt(1) - '0';
        int last = Integer.parseInt(g.substring(3));
        if (g.matches("1....")) {
            return works(() -> point(Integer.parseInt(g.substring(1, 3)), last));
        } else if (g.matches("20000")) {
            return works(this::lift);
        } else if (g.matches("3.000")) {
            return works(() -> learn(second));
        } else if (g.matches("400..")) {
            return works(() -> forget(last));
        } else if (g.matches("5.0..")) {
            return works(() -> set(second, last));
        } else if (g.matches("6.000")) {
            return read(1) == second;
        } else if (g.matches("700..")) {
            return now.samples.size() >= last;
        } else if (g.matches("800..")) {
            return !now.samples.isEmpty() && read(2) <= last;
        } else if (g.matches("9.000")) {
            int before = outcomes(0);
            return works(() -> practise(second)) && outcomes(0) > before;
        }
        return false;
    }

    int simulate(long seed, int m) {
        argument(in(m, 1, 99));
        PlainModel copy = copy();
        long x = seed;
        for (int i = 0; i < m; i++) {
            x = x * 6364136223846793005L + 1442695040888963407L;
            int r = (int) (x >>> 33);
            if (r % 16 == 0) {
                works(() -> copy.learn(r / 16 % 10));
            } else if (r % 16 == 1) {
                works(() -> copy.practise(r / 16 % 10));
            } else if (r % 16 == 2) {
                copy.lift();
            } else if (!works(() -> copy.point(r / 16 % 61, r / 1024 % 61))) {
                works(() -> copy.learn(r / 65536 % 10));
            }
        }
        return 100 * copy.now.samples.size() + copy.outcomes(0) - outcomes(0);
    }

    // save slots

    int save(int slot) {
        index(in(slot, 0, 1));
        slots[slot] = now;
        return now.samples.size();
    }

    int restore(int slot) {
        index(in(slot, 0, 1));
        state(slots[slot] != null);
        now = slots[slot];
        remembered.clear();
        return now.samples.size();
    }
}
