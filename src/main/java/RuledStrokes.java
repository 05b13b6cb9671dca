/**
 * Figures that are written by strokes over a ruled grid: the lines that strokes cross, in their
 * order, make a signature; samples with names, distances between signatures, the nearest sample,
 * ties that are refused, practice that is counted, rulings that part the samples better or worse.
 */
public final class RuledStrokes {
    public static final int NONE = -1;

    private static final int FARTHEST = 60;
    private static final int SIDE = FARTHEST + 1;
    private static final int MOST_STROKES = 3;
    private static final int MOST_POINTS = 12;
    private static final int MOST_SIGNS = 40;
    private static final int MOST_SAMPLES = 16;
    private static final int NAMES = 10;
    private static final int MOST_TEXT = 100;
    private static final int MOST_CODE = 255;
    private static final int MOST_REMEMBERED = 14;
    private static final int SLOTS = 2;
    private static final int MOST_COMMANDS = 3;
    private static final int MOST_TURNS = 99;

    /** The figure at hand has its place behind those of the samples. */
    private static final int HAND = MOST_SAMPLES;
    private static final int PLACES = MOST_SAMPLES + 1;

    private static final int RIGHT = 0;
    private static final int DOWN = 1;
    private static final int LEFT = 2;
    private static final int UP = 3;
    private static final int BREAK = 4;

    private static final int RULING = 0;
    private static final int LIMIT = 1;
    private static final int MARGIN = 2;
    private static final int SETTINGS = 3;
    private static final int FINEST_RULING = 5;
    private static final int COARSEST_RULING = 20;
    private static final int GREATEST_LIMIT = 99;
    private static final int LEAST_MARGIN = 1;
    private static final int GREATEST_MARGIN = 20;

    private static final int IS_READ = 0;
    private static final int IS_TIE = 1;
    private static final int IS_STRANGE = 2;

    private static final int READ_RIGHT = 0;
    private static final int NOT_READ = 1;
    private static final int READ_WRONG = 2;
    private static final int OUTCOMES = 3;

    private static final int GROUP = 100000;

    private final State state = new State();
    /** What would be is tried on this copy, so that the state itself stays as it is. */
    private final State trial = new State();
    private final Reader reader = new Reader();
    private final Text text = new Text();
    private final History history = new History();
    private final Shelf slots = new Shelf(SLOTS);

    public RuledStrokes() {
    }

    // ---- text

    public int append(int c) throws IllegalArgumentException, IllegalStateException {
        if (c < 0 || c > MOST_CODE) {
            throw new IllegalArgumentException("the character code is not 0 to 255");
        }
        if (text.length >= MOST_TEXT) {
            throw new IllegalStateException("the text already has 100 characters");
        }
        text.addCode(c);
        return text.length;
    }

    public int clearText() {
        int before = text.length;
        text.length = 0;
        return before;
    }

    public int errorPosition() {
        return text.firstError();
    }

    // ---- what there is

    public int about(int what) throws IllegalArgumentException {
        switch (what) {
            case 0:
                return state.figures.strokesOf(HAND);
            case 1:
                return state.figures.pointsOf(HAND);
            case 2:
                return state.penDown ? 1 : 0;
            case 3:
                return state.figures.signsOf(HAND);
            case 4:
                return state.samples;
            case 5:
                return state.outcomesOf(READ_RIGHT) + state.outcomesOf(NOT_READ)
                        + state.outcomesOf(READ_WRONG);
            case 6:
                return state.outcomesOf(READ_RIGHT);
            case 7:
                return state.outcomesOf(NOT_READ);
            default:
                throw new IllegalArgumentException("what is not 0 to 7");
        }
    }

    public int sign(int k) throws IllegalArgumentException {
        if (k < 0) {
            throw new IllegalArgumentException("the index of a sign is negative");
        }
        return state.figures.signAt(HAND, k);
    }

    public int sample(int s, int what) throws IndexOutOfBoundsException, IllegalArgumentException {
        if (!state.hasSample(s)) {
            throw new IndexOutOfBoundsException("there is no such sample");
        }
        switch (what) {
            case 0:
                return state.nameOf(s);
            case 1:
                return state.figures.strokesOf(s);
            case 2:
                return state.figures.pointsOf(s);
            case 3:
                return state.figures.signsOf(s);
            default:
                throw new IllegalArgumentException("what is not 0 to 3");
        }
    }

    public int signOf(int s, int k) throws IndexOutOfBoundsException, IllegalArgumentException {
        if (!state.hasSample(s)) {
            throw new IndexOutOfBoundsException("there is no such sample");
        }
        if (k < 0) {
            throw new IllegalArgumentException("the index of a sign is negative");
        }
        return state.figures.signAt(s, k);
    }

    public int practised(int name, int what) throws IllegalArgumentException {
        if (!isName(name)) {
            throw new IllegalArgumentException("the name is not 0 to 9");
        }
        if (what < 0 || what >= OUTCOMES) {
            throw new IllegalArgumentException("what is not 0 to 2");
        }
        return state.outcomeOf(name, what);
    }

    public int setting(int what) throws IllegalArgumentException {
        if (what < 0 || what >= SETTINGS) {
            throw new IllegalArgumentException("what is not 0 to 2");
        }
        return state.settingOf(what);
    }

    // ---- actions

    public int point(int x, int y) throws IllegalArgumentException, IllegalStateException {
        if (!isOnGrid(x) || !isOnGrid(y)) {
            throw new IllegalArgumentException("x or y is not 0 to 60");
        }
        history.prepare(state);
        if (!state.addPoint(x, y)) {
            throw new IllegalStateException("the figure does not take this point");
        }
        history.commit();
        return state.figures.signsOf(HAND);
    }

    public int lift() {
        history.remember(state);
        state.liftPen();
        return state.figures.strokesOf(HAND);
    }

    public int draw() throws IllegalStateException {
        if (text.firstError() != NONE) {
            throw new IllegalStateException("the text is not a figure");
        }
        trial.copyFrom(state);
        trial.clearHand();
        if (!text.drawOn(trial)) {
            throw new IllegalStateException("the figure of the text has more than 40 signs");
        }
        history.remember(state);
        state.copyFrom(trial);
        return state.figures.signsOf(HAND);
    }

    public int learn(int name) throws IllegalArgumentException, IllegalStateException {
        if (!isName(name)) {
            throw new IllegalArgumentException("the name is not 0 to 9");
        }
        history.prepare(state);
        if (!state.keepHand(name)) {
            throw new IllegalStateException("the figure at hand can't be learned by this name");
        }
        history.commit();
        return state.samples - 1;
    }

    public int forget(int s) throws IndexOutOfBoundsException {
        history.prepare(state);
        if (!state.dropSample(s)) {
            throw new IndexOutOfBoundsException("there is no such sample");
        }
        history.commit();
        return state.samples;
    }

    public int practise(int name) throws IllegalArgumentException, IllegalStateException {
        if (!isName(name)) {
            throw new IllegalArgumentException("the name is not 0 to 9");
        }
        history.prepare(state);
        int outcome = practiseOn(state, name);
        if (outcome == NONE) {
            throw new IllegalStateException("the figure at hand has no strokes");
        }
        history.commit();
        return outcome;
    }

    public int set(int what, int v) throws IllegalArgumentException, IllegalStateException {
        if (!isSetting(what, v)) {
            throw new IllegalArgumentException("there is no such setting or it can't be v");
        }
        int before = state.settingOf(what);
        history.prepare(state);
        if (!state.changeSetting(what, v)) {
            throw new IllegalStateException("a figure would have more than 40 signs");
        }
        history.commit();
        return before;
    }

    public int undo() throws IllegalStateException {
        State before = history.newestState();
        if (before == null) {
            throw new IllegalStateException("no state is remembered");
        }
        state.copyFrom(before);
        history.dropNewest();
        return history.count;
    }

    // ---- what would be

    public int read(int what) throws IllegalArgumentException {
        if (what < 0 || what > 3) {
            throw new IllegalArgumentException("what is not 0 to 3");
        }
        reader.readFigure(state, HAND, NONE);
        switch (what) {
            case 0:
                return reader.verdict;
            case 1:
                return reader.name;
            case 2:
                return reader.distance;
            default:
                return reader.sample;
        }
    }

    public int nearest(int k) throws IndexOutOfBoundsException {
        if (!state.hasSample(k)) {
            throw new IndexOutOfBoundsException("there are not so many samples");
        }
        return reader.rankedSample(state, k);
    }

    public int between(int s, int t) throws IndexOutOfBoundsException {
        if (!state.hasSample(s) || !state.hasSample(t)) {
            throw new IndexOutOfBoundsException("there is no such sample");
        }
        return reader.distanceOf(state.figures, s, t);
    }

    public int closest() {
        return reader.closestPair(state, NONE);
    }

    public int byOthers() {
        int right = 0;
        for (int s = 0; s < state.samples; s++) {
            reader.readFigure(state, s, s);
            if (reader.name == state.nameOf(s)) {
                right++;
            }
        }
        return right;
    }

    public int bestRuling() {
        trial.copyFrom(state);
        trial.clearHand();
        int best = NONE;
        int greatest = NONE;
        for (int ruling = FINEST_RULING; ruling <= COARSEST_RULING; ruling++) {
            int least = trial.changeSetting(RULING, ruling) ? leastOfPairs(trial, greatest) : NONE;
            if (least > greatest) {
                greatest = least;
                best = ruling;
            }
        }
        return best;
    }

    public int mirrored() {
        trial.copyFrom(state);
        if (!trial.mirrorHand()) {
            return NONE;
        }
        reader.readFigure(trial, HAND, NONE);
        return reader.name;
    }

    // ---- scripts, simulations

    public int runScript(int n, long script) throws IllegalArgumentException {
        if (n < 1 || n > MOST_COMMANDS) {
            throw new IllegalArgumentException("the number of commands is not 1 to 3");
        }
        if (script < 0 || withoutGroups(script, n) != 0) {
            throw new IllegalArgumentException("the script is negative or has too many digits");
        }
        trial.copyFrom(state);
        for (int i = 0; i < n; i++) {
            if (!commandSucceeds((int) (withoutGroups(script, n - 1 - i) % GROUP))) {
                return i;
            }
        }
        return NONE;
    }

    public int simulate(long seed, int m) throws IllegalArgumentException {
        if (m < 1 || m > MOST_TURNS) {
            throw new IllegalArgumentException("the number of turns is not 1 to 99");
        }
        trial.copyFrom(state);
        int rightBefore = trial.outcomesOf(READ_RIGHT);
        long x = seed;
        for (int i = 0; i < m; i++) {
            x = x * 6364136223846793005L + 1442695040888963407L;
            takeTurn((int) (x >>> 33));
        }
        return 100 * trial.samples + trial.outcomesOf(READ_RIGHT) - rightBefore;
    }

    // ---- save slots

    public int save(int slot) throws IndexOutOfBoundsException {
        if (slot < 0 || slot >= SLOTS) {
            throw new IndexOutOfBoundsException("there is no such save slot");
        }
        slots.keepCopy(slot, state);
        return state.samples;
    }

    public int restore(int slot) throws IndexOutOfBoundsException, IllegalStateException {
        if (slot < 0 || slot >= SLOTS) {
            throw new IndexOutOfBoundsException("there is no such save slot");
        }
        State saved = slots.copyAt(slot);
        if (saved == null) {
            throw new IllegalStateException("nothing has been saved in the slot");
        }
        state.copyFrom(saved);
        history.forgetAll();
        return state.samples;
    }

    // ---- how it is done

    private static boolean isOnGrid(int value) {
        return value >= 0 && value <= FARTHEST;
    }

    private static boolean isName(int name) {
        return name >= 0 && name < NAMES;
    }

    private static boolean isSetting(int what, int v) {
        switch (what) {
            case RULING:
                return v >= FINEST_RULING && v <= COARSEST_RULING;
            case LIMIT:
                return v >= 0 && v <= GREATEST_LIMIT;
            case MARGIN:
                return v >= LEAST_MARGIN && v <= GREATEST_MARGIN;
            default:
                return false;
        }
    }

    /** Every row of numbers is read here, so that no index is used without a look at it. */
    private static int cell(int[] row, int at) {
        return at >= 0 && at < row.length ? row[at] : 0;
    }

    /** Every row of numbers is written here or by the two below, for the same reason. */
    private static void putCell(int[] row, int at, int value) {
        if (at >= 0 && at < row.length) {
            row[at] = value;
        }
    }

    private static void copyCells(int[] from, int fromAt, int[] to, int toAt, int count) {
        boolean inside = count >= 0 && fromAt >= 0 && toAt >= 0
                && count <= from.length && fromAt <= from.length - count
                && count <= to.length && toAt <= to.length - count;
        if (inside) {
            System.arraycopy(from, fromAt, to, toAt, count);
        }
    }

    private static void copyRow(int[] from, int[] to) {
        System.arraycopy(from, 0, to, 0, Math.min(from.length, to.length));
    }

    /** Reads the figure at hand, counts what became of it and clears it; NONE without strokes. */
    private int practiseOn(State practising, int name) {
        if (practising.figures.strokesOf(HAND) == 0) {
            return NONE;
        }
        reader.readFigure(practising, HAND, NONE);
        int outcome = READ_WRONG;
        if (reader.verdict != IS_READ) {
            outcome = NOT_READ;
        } else if (reader.name == name) {
            outcome = READ_RIGHT;
        }
        practising.countOutcome(name, outcome);
        practising.clearHand();
        return outcome;
    }

    /** The least distance of two samples with different names, or one that is at most enough. */
    private int leastOfPairs(State of, int enough) {
        int pair = reader.closestPair(of, enough);
        return pair == NONE ? NONE : reader.distanceOf(of.figures, pair / 100, pair % 100);
    }

    /** The script without so many of its last groups. */
    private static long withoutGroups(long script, int groups) {
        long rest = script;
        for (int i = 0; i < groups; i++) {
            rest /= GROUP;
        }
        return rest;
    }

    /** Runs a command on the trial state; what a command that fails leaves there is not used. */
    private boolean commandSucceeds(int group) {
        int second = group / 1000 % 10;
        int third = group / 100 % 10;
        int lastTwo = group % 100;
        boolean hasZerosInside = second == 0 && third == 0;
        boolean endsInZeros = third == 0 && lastTwo == 0;
        switch (group / 10000) {
            case 1:
                return trial.addPoint(second * 10 + third, lastTwo);
            case 2:
                trial.liftPen();
                return second == 0 && endsInZeros;
            case 3:
                return endsInZeros && trial.keepHand(second);
            case 4:
                return hasZerosInside && trial.dropSample(lastTwo);
            case 5:
                return third == 0 && isSetting(second, lastTwo)
                        && trial.changeSetting(second, lastTwo);
            case 6:
                reader.readFigure(trial, HAND, NONE);
                return endsInZeros && reader.name == second;
            case 7:
                return hasZerosInside && trial.samples >= lastTwo;
            case 8:
                reader.readFigure(trial, HAND, NONE);
                return hasZerosInside && reader.sample != NONE && reader.distance <= lastTwo;
            case 9:
                return endsInZeros && practiseOn(trial, second) == READ_RIGHT;
            default:
                return false;
        }
    }

    /** What would throw an exception changes nothing in the trial state, so it is left out. */
    private void takeTurn(int r) {
        switch (r % 16) {
            case 0:
                trial.keepHand(r / 16 % NAMES);
                break;
            case 1:
                practiseOn(trial, r / 16 % NAMES);
                break;
            case 2:
                trial.liftPen();
                break;
            default:
                if (!trial.addPoint(r / 16 % SIDE, r / 1024 % SIDE)) {
                    trial.keepHand(r / 65536 % NAMES);
                }
                break;
        }
    }

    /** The text buffer, and what its characters say. */
    private static final class Text {
        final int[] codes = new int[MOST_TEXT];
        int length;

        void addCode(int code) {
            putCell(codes, length, code);
            length++;
        }

        int firstError() {
            int strokes = 1;
            int points = 1;
            int digits = 0;
            int value = 0;
            boolean isX = true;
            for (int i = 0; i < length; i++) {
                int code = cell(codes, i);
                boolean isDigit = code >= '0' && code <= '9';
                if (isDigit && (digits == 0 || goesOn(value, code - '0'))) {
                    value = value * 10 + code - '0';
                    digits++;
                    continue;
                }
                if (isDigit || digits == 0) {
                    return i;
                }
                if (isX && code == ',') {
                    isX = false;
                } else if (!isX && code == '-' && points < MOST_POINTS) {
                    points++;
                    isX = true;
                } else if (!isX && code == '/' && strokes < MOST_STROKES) {
                    strokes++;
                    points = 1;
                    isX = true;
                } else {
                    return i;
                }
                digits = 0;
                value = 0;
            }
            return isX || digits == 0 ? length : NONE;
        }

        /** A number that begins with 0 ends there: zeros ahead are not allowed. */
        private static boolean goesOn(int value, int digit) {
            return value > 0 && value * 10 + digit <= FARTHEST;
        }

        /** Adds the points of the text, which is a figure; false if one of them is refused. */
        boolean drawOn(State target) {
            int x = 0;
            int value = 0;
            for (int i = 0; i <= length; i++) {
                int code = i < length ? cell(codes, i) : '/';
                if (code >= '0' && code <= '9') {
                    value = value * 10 + code - '0';
                    continue;
                }
                if (code == ',') {
                    x = value;
                } else if (!target.addPoint(x, value)) {
                    return false;
                }
                if (code == '/') {
                    target.liftPen();
                }
                value = 0;
            }
            return true;
        }
    }

    /**
     * The figures of a state and their signatures, each at a place that has a number. A point is
     * held as x * SIDE + y; each stroke has room for all points that it may have.
     */
    private static final class Figures {
        final int[] strokes = new int[PLACES];
        final int[] lengths = new int[PLACES * MOST_STROKES];
        final int[] points = new int[PLACES * MOST_STROKES * MOST_POINTS];
        final int[] signCounts = new int[PLACES];
        final int[] signs = new int[PLACES * MOST_SIGNS];

        void copyFrom(Figures other) {
            copyRow(other.strokes, strokes);
            copyRow(other.lengths, lengths);
            copyRow(other.points, points);
            copyRow(other.signCounts, signCounts);
            copyRow(other.signs, signs);
        }

        void copyPlace(int from, int to) {
            int strokePoints = MOST_STROKES * MOST_POINTS;
            copyCells(strokes, from, strokes, to, 1);
            copyCells(lengths, from * MOST_STROKES, lengths, to * MOST_STROKES, MOST_STROKES);
            copyCells(points, from * strokePoints, points, to * strokePoints, strokePoints);
            copyCells(signCounts, from, signCounts, to, 1);
            copyCells(signs, from * MOST_SIGNS, signs, to * MOST_SIGNS, MOST_SIGNS);
        }

        void clearPlace(int place) {
            putCell(strokes, place, 0);
            putCell(signCounts, place, 0);
        }

        int strokesOf(int place) {
            return cell(strokes, place);
        }

        int pointsOf(int place) {
            int sum = 0;
            for (int stroke = 0; stroke < strokesOf(place); stroke++) {
                sum += lengthOf(place, stroke);
            }
            return sum;
        }

        int signsOf(int place) {
            return cell(signCounts, place);
        }

        int signAt(int place, int k) {
            boolean exists = k >= 0 && k < cell(signCounts, place);
            return exists ? cell(signs, place * MOST_SIGNS + k) : NONE;
        }

        private int lengthOf(int place, int stroke) {
            return cell(lengths, place * MOST_STROKES + stroke);
        }

        private int pointAt(int place, int stroke, int i) {
            return cell(points, (place * MOST_STROKES + stroke) * MOST_POINTS + i);
        }

        private void putPoint(int place, int stroke, int i, int point) {
            putCell(points, (place * MOST_STROKES + stroke) * MOST_POINTS + i, point);
        }

        /** Begins a stroke by its first point; false if the figure does not take one more. */
        boolean beginStroke(int place, int point) {
            int stroke = strokesOf(place);
            int sign = stroke > 0 ? 1 : 0;
            if (stroke >= MOST_STROKES || signsOf(place) + sign > MOST_SIGNS) {
                return false;
            }
            putCell(strokes, place, stroke + 1);
            putCell(lengths, place * MOST_STROKES + stroke, 1);
            putPoint(place, stroke, 0, point);
            if (stroke > 0) {
                writeSign(place, BREAK);
            }
            return true;
        }

        /** Goes on with the last stroke; false if the figure does not take this point. */
        boolean extendStroke(int place, int point, int ruling) {
            int stroke = strokesOf(place) - 1;
            int length = stroke < 0 ? MOST_POINTS : lengthOf(place, stroke);
            if (length >= MOST_POINTS) {
                return false;
            }
            int last = pointAt(place, stroke, length - 1);
            if (signsOf(place) + crossings(last, point, ruling) > MOST_SIGNS) {
                return false;
            }
            putCell(lengths, place * MOST_STROKES + stroke, length + 1);
            putPoint(place, stroke, length, point);
            writeCrossings(place, last, point, ruling);
            return true;
        }

        void mirrorPlace(int place) {
            for (int stroke = 0; stroke < strokesOf(place); stroke++) {
                for (int i = 0; i < lengthOf(place, stroke); i++) {
                    int point = pointAt(place, stroke, i);
                    int x = FARTHEST - point / SIDE;
                    putPoint(place, stroke, i, x * SIDE + point % SIDE);
                }
            }
        }

        /** Whether the signature by this ruling would not be too long. */
        boolean fits(int place, int ruling) {
            int sum = Math.max(strokesOf(place) - 1, 0);
            for (int stroke = 0; stroke < strokesOf(place); stroke++) {
                for (int i = 1; i < lengthOf(place, stroke); i++) {
                    sum += crossings(pointAt(place, stroke, i - 1), pointAt(place, stroke, i), ruling);
                }
            }
            return sum <= MOST_SIGNS;
        }

        /** Writes the signature by this ruling, which fits. */
        void writeSigns(int place, int ruling) {
            putCell(signCounts, place, 0);
            for (int stroke = 0; stroke < strokesOf(place); stroke++) {
                if (stroke > 0) {
                    writeSign(place, BREAK);
                }
                for (int i = 1; i < lengthOf(place, stroke); i++) {
                    int from = pointAt(place, stroke, i - 1);
                    writeCrossings(place, from, pointAt(place, stroke, i), ruling);
                }
            }
        }

        private void writeSign(int place, int sign) {
            int count = signsOf(place);
            if (count < MOST_SIGNS) {
                putCell(signs, place * MOST_SIGNS + count, sign);
                putCell(signCounts, place, count + 1);
            }
        }

        /** By how many columns, or rows, two values of x, or y, lie apart. */
        private static int linesBetween(int from, int to, int ruling) {
            return ruling > 0 ? Math.abs(to / ruling - from / ruling) : 0;
        }

        private static int crossings(int from, int to, int ruling) {
            return linesBetween(from / SIDE, to / SIDE, ruling)
                    + linesBetween(from % SIDE, to % SIDE, ruling);
        }

        /** How far it is from a value to the first line that it crosses on its way to another. */
        private static int wayToLine(int from, int to, int ruling) {
            int behindLine = ruling > 0 ? from % ruling : 0;
            return to > from ? ruling - behindLine : behindLine;
        }

        /**
         * Writes the signs of the way between two points. A line of x is crossed before one of y
         * if its part of the way is smaller: wayX / width < wayY / height, without the divisions.
         */
        private void writeCrossings(int place, int from, int to, int ruling) {
            int fromX = from / SIDE;
            int fromY = from % SIDE;
            int toX = to / SIDE;
            int toY = to % SIDE;
            int width = Math.abs(toX - fromX);
            int height = Math.abs(toY - fromY);
            int columns = linesBetween(fromX, toX, ruling);
            int rows = linesBetween(fromY, toY, ruling);
            int wayX = wayToLine(fromX, toX, ruling);
            int wayY = wayToLine(fromY, toY, ruling);
            int column = 0;
            for (int i = 0; i < columns + rows; i++) {
                boolean rowsAreDone = i - column >= rows;
                if (rowsAreDone || column < columns && wayX * height <= wayY * width) {
                    writeSign(place, toX > fromX ? RIGHT : LEFT);
                    wayX += ruling;
                    column++;
                } else {
                    writeSign(place, toY > fromY ? DOWN : UP);
                    wayY += ruling;
                }
            }
        }
    }

    /** What actions change and undo takes back. */
    private static final class State {
        final Figures figures = new Figures();
        final int[] names = new int[MOST_SAMPLES];
        final int[] settings = {10, 12, 1};
        final int[] outcomes = new int[NAMES * OUTCOMES];
        int samples;
        boolean penDown;

        void copyFrom(State other) {
            figures.copyFrom(other.figures);
            copyRow(other.names, names);
            copyRow(other.settings, settings);
            copyRow(other.outcomes, outcomes);
            samples = other.samples;
            penDown = other.penDown;
        }

        boolean hasSample(int s) {
            return s >= 0 && s < samples;
        }

        int nameOf(int s) {
            return cell(names, s);
        }

        int settingOf(int what) {
            return cell(settings, what);
        }

        int outcomeOf(int name, int outcome) {
            return cell(outcomes, name * OUTCOMES + outcome);
        }

        int outcomesOf(int outcome) {
            int sum = 0;
            for (int name = 0; name < NAMES; name++) {
                sum += outcomeOf(name, outcome);
            }
            return sum;
        }

        void countOutcome(int name, int outcome) {
            putCell(outcomes, name * OUTCOMES + outcome, outcomeOf(name, outcome) + 1);
        }

        void clearHand() {
            figures.clearPlace(HAND);
            penDown = false;
        }

        void liftPen() {
            penDown = false;
        }

        /** False, and nothing is changed, if the figure at hand does not take this point. */
        boolean addPoint(int x, int y) {
            if (!isOnGrid(x) || !isOnGrid(y)) {
                return false;
            }
            int point = x * SIDE + y;
            boolean added = penDown
                    ? figures.extendStroke(HAND, point, settingOf(RULING))
                    : figures.beginStroke(HAND, point);
            penDown = penDown || added;
            return added;
        }

        /** False, and nothing is changed, if the figure at hand can't become a sample. */
        boolean keepHand(int name) {
            if (figures.strokesOf(HAND) == 0 || samples >= MOST_SAMPLES || isTaken(name)) {
                return false;
            }
            figures.copyPlace(HAND, samples);
            putCell(names, samples, name);
            samples++;
            clearHand();
            return true;
        }

        /** Whether a sample with another name has the signature of the figure at hand. */
        private boolean isTaken(int name) {
            for (int s = 0; s < samples; s++) {
                if (nameOf(s) != name && isSignedLikeHand(s)) {
                    return true;
                }
            }
            return false;
        }

        private boolean isSignedLikeHand(int s) {
            int count = figures.signsOf(HAND);
            boolean alike = figures.signsOf(s) == count;
            for (int k = 0; k < count && alike; k++) {
                alike = figures.signAt(s, k) == figures.signAt(HAND, k);
            }
            return alike;
        }

        /** False, and nothing is changed, if there is no such sample. */
        boolean dropSample(int s) {
            if (!hasSample(s)) {
                return false;
            }
            for (int next = s + 1; next < samples; next++) {
                figures.copyPlace(next, next - 1);
                putCell(names, next - 1, nameOf(next));
            }
            samples--;
            return true;
        }

        /** False, and nothing is changed, if a figure would have too many signs. */
        boolean changeSetting(int what, int v) {
            if (what == RULING && !takesRuling(v)) {
                return false;
            }
            putCell(settings, what, v);
            if (what == RULING) {
                for (int s = 0; s < samples; s++) {
                    figures.writeSigns(s, v);
                }
                figures.writeSigns(HAND, v);
            }
            return true;
        }

        private boolean takesRuling(int ruling) {
            boolean fitting = figures.fits(HAND, ruling);
            for (int s = 0; s < samples && fitting; s++) {
                fitting = figures.fits(s, ruling);
            }
            return fitting;
        }

        /** False if the mirrored figure would have too many signs; it is not to be used then. */
        boolean mirrorHand() {
            figures.mirrorPlace(HAND);
            if (!figures.fits(HAND, settingOf(RULING))) {
                return false;
            }
            figures.writeSigns(HAND, settingOf(RULING));
            return true;
        }
    }

    /** Measures distances, and keeps what the last figure was read as. */
    private static final class Reader {
        final int[] costs = new int[MOST_SIGNS + 1];
        final int[] distances = new int[MOST_SAMPLES];
        int verdict;
        int name;
        int distance;
        int sample;

        /** Reads the figure at a place by all samples but one, or by all of them with NONE. */
        void readFigure(State state, int place, int without) {
            sample = NONE;
            distance = NONE;
            name = NONE;
            for (int s = 0; s < state.samples; s++) {
                if (s == without) {
                    continue;
                }
                int found = distanceOf(state.figures, place, s);
                putCell(distances, s, found);
                if (sample == NONE || found < distance) {
                    sample = s;
                    distance = found;
                }
            }
            if (sample == NONE || distance > state.settingOf(LIMIT)) {
                verdict = IS_STRANGE;
            } else if (hasRival(state, without)) {
                verdict = IS_TIE;
            } else {
                verdict = IS_READ;
                name = state.nameOf(sample);
            }
        }

        private boolean hasRival(State state, int without) {
            int nearestName = state.nameOf(sample);
            int bound = distance + state.settingOf(MARGIN);
            for (int s = 0; s < state.samples; s++) {
                if (s != without && state.nameOf(s) != nearestName && cell(distances, s) < bound) {
                    return true;
                }
            }
            return false;
        }

        /** 1000 * s + its distance, s being the sample that has k samples before it. */
        int rankedSample(State state, int k) {
            for (int s = 0; s < state.samples; s++) {
                putCell(distances, s, distanceOf(state.figures, HAND, s));
            }
            for (int s = 0; s < state.samples; s++) {
                if (samplesBefore(state, s) == k) {
                    return 1000 * s + cell(distances, s);
                }
            }
            return NONE;
        }

        private int samplesBefore(State state, int s) {
            int own = cell(distances, s);
            int before = 0;
            for (int t = 0; t < state.samples; t++) {
                int other = cell(distances, t);
                if (other < own || other == own && t < s) {
                    before++;
                }
            }
            return before;
        }

        /**
         * 100 * s + t of the two samples with different names and the least distance, or of the
         * first two whose distance is at most enough; NONE if there are no two such samples.
         */
        int closestPair(State state, int enough) {
            int pair = NONE;
            int least = NONE;
            for (int s = 0; s < state.samples; s++) {
                for (int t = s + 1; t < state.samples; t++) {
                    if (state.nameOf(s) == state.nameOf(t)) {
                        continue;
                    }
                    int found = distanceOf(state.figures, s, t);
                    if (pair == NONE || found < least) {
                        pair = 100 * s + t;
                        least = found;
                    }
                    if (least <= enough) {
                        return pair;
                    }
                }
            }
            return pair;
        }

        /**
         * The distance of the signatures at two places: costs[j] is what it costs to make the
         * first j signs of b out of the signs of a that have been looked at.
         */
        int distanceOf(Figures figures, int a, int b) {
            int rowLength = figures.signsOf(b);
            putCell(costs, 0, 0);
            for (int j = 1; j <= rowLength; j++) {
                putCell(costs, j, cell(costs, j - 1) + costAlone(figures.signAt(b, j - 1)));
            }
            for (int i = 0; i < figures.signsOf(a); i++) {
                int sign = figures.signAt(a, i);
                int diagonal = cell(costs, 0);
                putCell(costs, 0, diagonal + costAlone(sign));
                for (int j = 1; j <= rowLength; j++) {
                    int other = figures.signAt(b, j - 1);
                    int out = cell(costs, j) + costAlone(sign);
                    int in = cell(costs, j - 1) + costAlone(other);
                    int instead = diagonal + costInstead(sign, other);
                    diagonal = cell(costs, j);
                    putCell(costs, j, Math.min(instead, Math.min(out, in)));
                }
            }
            return cell(costs, rowLength);
        }

        private static int costAlone(int sign) {
            return sign == BREAK ? 3 : 2;
        }

        private static int costInstead(int sign, int other) {
            if (sign == other) {
                return 0;
            }
            if (sign == BREAK || other == BREAK) {
                return 5;
            }
            return Math.abs(sign - other) == 2 ? 3 : 2;
        }
    }

    /** Copies of states at places; one is made when its place is first used, and used again. */
    private static final class Shelf {
        private final State[] copies;

        Shelf(int places) {
            copies = new State[Math.max(places, 0)];
        }

        State copyAt(int place) {
            return place >= 0 && place < copies.length ? copies[place] : null;
        }

        void keepCopy(int place, State state) {
            if (place < 0 || place >= copies.length) {
                return;
            }
            State copy = copies[place];
            if (copy == null) {
                copy = new State();
                copies[place] = copy;
            }
            copy.copyFrom(state);
        }
    }

    /**
     * The states that are remembered, in a ring. It has one place more than states that count, so
     * that a state can be laid down before the action of which it is not known yet if it throws.
     */
    private static final class History {
        private static final int RING = MOST_REMEMBERED + 1;
        private final Shelf ring = new Shelf(RING);
        private int newest;
        int count;

        void prepare(State state) {
            ring.keepCopy((newest + 1) % RING, state);
        }

        void commit() {
            newest = (newest + 1) % RING;
            count = Math.min(count + 1, MOST_REMEMBERED);
        }

        void remember(State state) {
            prepare(state);
            commit();
        }

        /** Null if none is remembered. */
        State newestState() {
            return count > 0 ? ring.copyAt(newest) : null;
        }

        void dropNewest() {
            newest = (newest + RING - 1) % RING;
            count--;
        }

        void forgetAll() {
            count = 0;
        }
    }
}
