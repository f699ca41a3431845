import java.util.Arrays;

/** A judge of sums that run over; the words in capitals are the document's terms. */
public final class SumsOver {
    public static final int NONE = -1;

    private static final int NO_VALUE = -2147483648;

    private static final int NAMES = 6;
    private static final int INPUTS = 2;
    private static final int LEAST_WIDTH = 2;
    private static final int MOST_WIDTH = 31;
    private static final int FIRST_WIDTH = 16;
    private static final int FARTHEST_TOLD = 100000;
    private static final int MOST_IN_SPAN = 32;
    private static final int MOST_STEPS = 24;
    private static final int MOST_SHIFT = 12;
    private static final int MOST_TIMES = 12;
    private static final long FARTHEST_TRUE = 1L << 40;

    private static final int SET = 0;
    private static final int COPY = 1;
    private static final int ADD = 2;
    private static final int LESS_BY = 3;
    private static final int TIMES = 4;
    private static final int SHIFT = 5;
    private static final int MIN = 6;
    private static final int BELOW = 7;
    private static final int LOOP = 8;
    private static final int END = 9;

    private static final int NEVER_BY_SPANS = 0;
    private static final int IN_NO_RUN = 1;
    private static final int IN_SOME_RUNS = 2;
    private static final int IN_ALL_RUNS = 3;

    private static final int FIRST_WIDTH_COUNT = 10;
    private static final int FIRST_SIGN_COUNT = 20;

    private final Names names = new Names();
    private final Inputs inputs = new Inputs();
    private final Steps steps = new Steps();
    private final Runner runner = new Runner(names, steps);

    // All RUNS are dear to go through, so what these learn is kept until something changes.
    private final Tally tally = new Tally(runner, inputs);
    private final Reach reach = new Reach(names, steps, inputs);
    private final Trues trues = new Trues(steps, inputs);

    public SumsOver() {
    }

    public boolean name(int name, int width, boolean signed) {
        if (!isName(name) || width < LEAST_WIDTH || width > MOST_WIDTH) {
            return false;
        }
        names.tell(name, width, signed);
        forget();
        return true;
    }

    public boolean span(int input, int from, int to) {
        if (input < 0 || input >= INPUTS || !isTold(from) || !isTold(to)) {
            return false;
        }
        if (to < from || to - from >= MOST_IN_SPAN) {
            return false;
        }
        inputs.from[input] = from;
        inputs.to[input] = to;
        forget();
        return true;
    }

    public int step(int kind, int target, int a, int b) {
        if (steps.size >= MOST_STEPS || !canFollow(kind) || !canBe(kind, target, a, b)) {
            return NONE;
        }
        steps.append(kind, target, a, b);
        forget();
        return steps.size - 1;
    }

    public boolean back() {
        if (steps.size == 0) {
            return false;
        }
        steps.dropLast();
        forget();
        return true;
    }

    public boolean mode(int mode) {
        if (mode != 0 && mode != 1) {
            return false;
        }
        names.nearest = mode == 1;
        forget();
        return true;
    }

    public int run(int x, int y, int name) {
        if (!isName(name) || !inputs.hold(x, y)) {
            return NO_VALUE;
        }
        runner.follow(x, y);
        return (int) runner.values[name];
    }

    public int first(int x, int y) {
        if (!inputs.hold(x, y)) {
            return NONE;
        }
        runner.follow(x, y);
        return runner.firstOver;
    }

    public int judge(int step) {
        if (!isStep(step)) {
            return NONE;
        }
        reach.learn();
        tally.learn();
        return judged(step);
    }

    public int over(int step) {
        if (!isStep(step)) {
            return NONE;
        }
        tally.learn();
        return tally.over[step];
    }

    public int shown(int step) {
        if (!isStep(step)) {
            return NONE;
        }
        tally.learn();
        return tally.shown[step];
    }

    public int turned(int step) {
        if (!isStep(step) || steps.kinds[step] != BELOW) {
            return NONE;
        }
        tally.learn();
        return tally.turned[step];
    }

    public int ends(int name, int what) {
        if (!isName(name) || (what != 0 && what != 1)) {
            return NO_VALUE;
        }
        reach.learn();
        return (int) (what == 0 ? reach.least[name] : reach.greatest[name]);
    }

    public int need(int name) {
        if (!isName(name)) {
            return NONE;
        }
        trues.learn();
        return needed(name);
    }

    public int price() {
        trues.learn();
        if (!canMend()) {
            return NONE;
        }
        int bits = 0;
        for (int n = 0; n < NAMES; n++) {
            bits += Math.max(0, needed(n) - names.widths[n]);
        }
        return bits;
    }

    public int mend() {
        trues.learn();
        if (!canMend()) {
            return NONE;
        }
        int mended = 0;
        for (int n = 0; n < NAMES; n++) {
            int width = needed(n);
            if (width > names.widths[n]) {
                names.tell(n, width, names.signs[n]);
                mended++;
            }
        }
        forget();
        return mended;
    }

    public boolean mean(int step, boolean is) {
        if (!isStep(step) || steps.meant[step] == is) {
            return false;
        }
        steps.meant[step] = is;
        return true;
    }

    public int listed(int i) {
        reach.learn();
        tally.learn();
        for (int s = 0; s < steps.size; s++) {
            if (isListed(s) && listedBefore(s) == i) {
                return s;
            }
        }
        return NONE;
    }

    public int count(int what) {
        if (what >= FIRST_WIDTH_COUNT && what < FIRST_WIDTH_COUNT + NAMES) {
            return names.widths[what - FIRST_WIDTH_COUNT];
        }
        if (what >= FIRST_SIGN_COUNT && what < FIRST_SIGN_COUNT + NAMES) {
            return names.signs[what - FIRST_SIGN_COUNT] ? 1 : 0;
        }
        switch (what) {
            case 0:
                return steps.size;
            case 1:
                return inputs.runs();
            case 2:
                tally.learn();
                return tally.runsOver;
            case 3:
                return steps.marks();
            case 4:
                return names.nearest ? 1 : 0;
            default:
                return NONE;
        }
    }

    private static boolean isName(int name) {
        return name >= 0 && name < NAMES;
    }

    private static boolean isTold(int number) {
        return number >= -FARTHEST_TOLD && number <= FARTHEST_TOLD;
    }

    private boolean isStep(int step) {
        return step >= 0 && step < steps.size;
    }

    private boolean canFollow(int kind) {
        if (kind == LOOP) {
            return !steps.inLoop();
        }
        return kind != END || steps.inLoop();
    }

    private static boolean canBe(int kind, int target, int a, int b) {
        if (kind < SET || kind > END) {
            return false;
        }
        if (hasTarget(kind) && !isName(target)) {
            return false;
        }
        if (readsA(kind) && !isName(a)) {
            return false;
        }
        return canBeB(kind, b);
    }

    private static boolean canBeB(int kind, int b) {
        if (readsB(kind)) {
            return isName(b);
        }
        switch (kind) {
            case SET:
                return isTold(b);
            case SHIFT:
                return b >= 0 && b <= MOST_SHIFT;
            case LOOP:
                return b >= 1 && b <= MOST_TIMES;
            default:
                return true;
        }
    }

    private static boolean hasTarget(int kind) {
        return kind >= SET && kind <= BELOW;
    }

    private static boolean readsA(int kind) {
        return kind >= COPY && kind <= BELOW;
    }

    private static boolean readsB(int kind) {
        return kind == ADD || kind == LESS_BY || kind == TIMES || kind == MIN || kind == BELOW;
    }

    /** What a KIND makes of two values as they are; LOOP and END are on no path and never come here. */
    private static long made(int kind, long a, long b) {
        switch (kind) {
            case SET:
                return b;
            case COPY:
                return a;
            case ADD:
                return a + b;
            case LESS_BY:
                return a - b;
            case TIMES:
                return a * b;
            case SHIFT:
                return a << (int) b;
            case MIN:
                return Math.min(a, b);
            default:
                return a < b ? 1 : 0;
        }
    }

    private static long leastOf(int width, boolean signed) {
        return signed ? -(1L << (width - 1)) : 0;
    }

    private static long greatestOf(int width, boolean signed) {
        return (1L << (signed ? width - 1 : width)) - 1;
    }

    private void forget() {
        tally.known = false;
        reach.known = false;
        trues.known = false;
    }

    // The public methods let reach, tally and trues learn before they ask what follows here.

    private int judged(int step) {
        if (!reach.couldGoOver(step)) {
            return NEVER_BY_SPANS;
        }
        if (tally.over[step] == 0) {
            return IN_NO_RUN;
        }
        return tally.over[step] < inputs.runs() ? IN_SOME_RUNS : IN_ALL_RUNS;
    }

    private int needed(int name) {
        if (trues.tooFar) {
            return NONE;
        }
        boolean signed = names.signs[name];
        for (int width = LEAST_WIDTH; width <= MOST_WIDTH; width++) {
            if (trues.least[name] >= leastOf(width, signed) && trues.greatest[name] <= greatestOf(width, signed)) {
                return width;
            }
        }
        return NONE;
    }

    private boolean canMend() {
        for (int n = 0; n < NAMES; n++) {
            if (needed(n) == NONE) {
                return false;
            }
        }
        return true;
    }

    private boolean isListed(int step) {
        return !steps.meant[step] && judged(step) >= IN_SOME_RUNS;
    }

    private int listedBefore(int step) {
        int before = 0;
        for (int s = 0; s < steps.size; s++) {
            if (isListed(s) && comesBefore(s, step)) {
                before++;
            }
        }
        return before;
    }

    private boolean comesBefore(int one, int other) {
        if (tally.over[one] != tally.over[other]) {
            return tally.over[one] > tally.over[other];
        }
        return one < other;
    }

    /** The bounds of the NAMES, and how a value comes to lie within them. */
    private static final class Names {
        final int[] widths = new int[NAMES];
        final boolean[] signs = new boolean[NAMES];
        final long[] least = new long[NAMES];
        final long[] greatest = new long[NAMES];
        boolean nearest;

        Names() {
            for (int n = 0; n < NAMES; n++) {
                tell(n, FIRST_WIDTH, true);
            }
        }

        void tell(int name, int width, boolean signed) {
            widths[name] = width;
            signs[name] = signed;
            least[name] = leastOf(width, signed);
            greatest[name] = greatestOf(width, signed);
        }

        boolean holds(int name, long value) {
            return value >= least[name] && value <= greatest[name];
        }

        /** What the NAME has once the value is PUT: a value of its RANGE stays as it is by either MODE. */
        long fitted(int name, long value) {
            return nearest ? nearestTo(name, value) : wrapped(name, value);
        }

        long nearestTo(int name, long value) {
            return Math.max(least[name], Math.min(greatest[name], value));
        }

        private long wrapped(int name, long value) {
            return least[name] + rest(value - least[name], widths[name]);
        }

        boolean signedAlike(int one, int other) {
            return signs[one] == signs[other];
        }

        /** BELOW of a SIGNED NAME's value and one that isn't: by their rests. */
        long belowByRests(int a, int b, long valueA, long valueB) {
            int width = Math.max(widths[a], widths[b]);
            return rest(valueA, width) < rest(valueB, width) ? 1 : 0;
        }

        private static long rest(long value, int width) {
            return value & ((1L << width) - 1);
        }
    }

    /** The SPANS of the INPUTS. */
    private static final class Inputs {
        final int[] from = new int[INPUTS];
        final int[] to = new int[INPUTS];

        boolean hold(int x, int y) {
            return x >= from[0] && x <= to[0] && y >= from[1] && y <= to[1];
        }

        int runs() {
            return (to[0] - from[0] + 1) * (to[1] - from[1] + 1);
        }
    }

    /** The STEPS, and the path: their numbers in the order in which a RUN does them. */
    private static final class Steps {
        final int[] kinds = new int[MOST_STEPS];
        final int[] targets = new int[MOST_STEPS];
        final int[] as = new int[MOST_STEPS];
        final int[] bs = new int[MOST_STEPS];
        private final boolean[] bIsName = new boolean[MOST_STEPS];
        final boolean[] meant = new boolean[MOST_STEPS];
        int size;
        final int[] path = new int[MOST_STEPS * MOST_TIMES];
        int pathLength;

        /** A TARGET or an a that doesn't matter can be any number: it is kept as 0, to serve as an index. */
        void append(int kind, int target, int a, int b) {
            kinds[size] = kind;
            targets[size] = hasTarget(kind) ? target : 0;
            as[size] = readsA(kind) ? a : 0;
            bs[size] = b;
            bIsName[size] = readsB(kind);
            size++;
            retrace();
        }

        void dropLast() {
            size--;
            meant[size] = false;
            retrace();
        }

        boolean inLoop() {
            boolean open = false;
            for (int s = 0; s < size; s++) {
                if (kinds[s] == LOOP) {
                    open = true;
                } else if (kinds[s] == END) {
                    open = false;
                }
            }
            return open;
        }

        int marks() {
            int marks = 0;
            for (int s = 0; s < size; s++) {
                if (meant[s]) {
                    marks++;
                }
            }
            return marks;
        }

        long valueOfA(int step, long[] values) {
            return values[as[step]];
        }

        long valueOfB(int step, long[] values) {
            return bIsName[step] ? values[bs[step]] : bs[step];
        }

        /** A STEP within a LOOP is traced with its LOOP, and so passed over when its own turn comes. */
        private void retrace() {
            pathLength = 0;
            int loopEnd = -1;
            for (int s = 0; s < size; s++) {
                if (kinds[s] == LOOP) {
                    loopEnd = endOf(s);
                    for (int time = 0; time < bs[s]; time++) {
                        trace(s + 1, loopEnd);
                    }
                } else if (s > loopEnd) {
                    trace(s, s + 1);
                }
            }
        }

        private int endOf(int loop) {
            for (int s = loop + 1; s < size; s++) {
                if (kinds[s] == END) {
                    return s;
                }
            }
            return size;
        }

        private void trace(int from, int to) {
            for (int s = from; s < to && pathLength < path.length; s++) {
                path[pathLength] = s;
                pathLength++;
            }
        }
    }

    /** Does one RUN; of the STEPS it keeps a bit each (bit 0 is STEP 0). */
    private static final class Runner {
        final Names names;
        final Steps steps;
        final long[] values = new long[NAMES];
        int overBits;
        int turnedBits;
        int firstOver;

        Runner(Names names, Steps steps) {
            this.names = names;
            this.steps = steps;
        }

        void follow(int x, int y) {
            overBits = 0;
            turnedBits = 0;
            firstOver = NONE;
            Arrays.fill(values, 0);
            values[0] = names.fitted(0, x);
            values[1] = names.fitted(1, y);
            for (int at = 0; at < steps.pathLength; at++) {
                perform(steps.path[at]);
            }
        }

        private void perform(int step) {
            int target = steps.targets[step];
            long value = answer(step);
            if (!names.holds(target, value)) {
                noteOver(step);
            }
            values[target] = names.fitted(target, value);
        }

        private void noteOver(int step) {
            if (overBits == 0) {
                firstOver = step;
            }
            overBits |= 1 << step;
        }

        private long answer(int step) {
            int kind = steps.kinds[step];
            long a = steps.valueOfA(step, values);
            long b = steps.valueOfB(step, values);
            long plain = made(kind, a, b);
            if (kind != BELOW || names.signedAlike(steps.as[step], steps.bs[step])) {
                return plain;
            }
            long byRests = names.belowByRests(steps.as[step], steps.bs[step], a, b);
            if (byRests != plain) {
                turnedBits |= 1 << step;
            }
            return byRests;
        }
    }

    /** What all RUNS together tell of each STEP. */
    private static final class Tally {
        final int[] over = new int[MOST_STEPS];
        final int[] shown = new int[MOST_STEPS];
        final int[] turned = new int[MOST_STEPS];
        int runsOver;
        boolean known;
        private final Runner runner;
        private final Inputs inputs;

        Tally(Runner runner, Inputs inputs) {
            this.runner = runner;
            this.inputs = inputs;
        }

        void learn() {
            if (known) {
                return;
            }
            known = true;
            Arrays.fill(over, 0);
            Arrays.fill(shown, NONE);
            Arrays.fill(turned, 0);
            runsOver = 0;
            for (int x = inputs.from[0]; x <= inputs.to[0]; x++) {
                for (int y = inputs.from[1]; y <= inputs.to[1]; y++) {
                    runner.follow(x, y);
                    note(MOST_IN_SPAN * (x - inputs.from[0]) + y - inputs.from[1]);
                }
            }
        }

        private void note(int runNumber) {
            if (runner.overBits != 0) {
                runsOver++;
                noteOver(runner.overBits, runNumber);
            }
            if (runner.turnedBits != 0) {
                noteTurned(runner.turnedBits);
            }
        }

        private void noteOver(int bits, int runNumber) {
            for (int s = 0; s < MOST_STEPS; s++) {
                if ((bits >> s & 1) == 1) {
                    if (over[s] == 0) {
                        shown[s] = runNumber;
                    }
                    over[s]++;
                }
            }
        }

        private void noteTurned(int bits) {
            for (int s = 0; s < MOST_STEPS; s++) {
                turned[s] += bits >> s & 1;
            }
        }
    }

    /** The least and the greatest value of each NAME, by SPANS alone. */
    private static final class Reach {
        final long[] least = new long[NAMES];
        final long[] greatest = new long[NAMES];
        boolean known;
        private int couldBits;
        private long low;
        private long high;
        private final Names names;
        private final Steps steps;
        private final Inputs inputs;

        Reach(Names names, Steps steps, Inputs inputs) {
            this.names = names;
            this.steps = steps;
            this.inputs = inputs;
        }

        boolean couldGoOver(int step) {
            return (couldBits >> step & 1) == 1;
        }

        void learn() {
            if (known) {
                return;
            }
            known = true;
            couldBits = 0;
            Arrays.fill(least, 0);
            Arrays.fill(greatest, 0);
            for (int n = 0; n < INPUTS; n++) {
                low = inputs.from[n];
                high = inputs.to[n];
                settle(n);
            }
            for (int at = 0; at < steps.pathLength; at++) {
                perform(steps.path[at]);
            }
        }

        private void perform(int step) {
            int target = steps.targets[step];
            reckon(step);
            if (!fits(target)) {
                couldBits |= 1 << step;
            }
            settle(target);
        }

        private boolean fits(int name) {
            return names.holds(name, low) && names.holds(name, high);
        }

        private void settle(int name) {
            if (fits(name)) {
                least[name] = low;
                greatest[name] = high;
            } else if (names.nearest) {
                least[name] = names.nearestTo(name, low);
                greatest[name] = names.nearestTo(name, high);
            } else {
                least[name] = names.least[name];
                greatest[name] = names.greatest[name];
            }
        }

        private void reckon(int step) {
            long lowA = steps.valueOfA(step, least);
            long lowB = steps.valueOfB(step, least);
            long highA = steps.valueOfA(step, greatest);
            long highB = steps.valueOfB(step, greatest);
            int kind = steps.kinds[step];
            switch (kind) {
                case LESS_BY:
                    low = lowA - highB;
                    high = highA - lowB;
                    break;
                case TIMES:
                    low = Math.min(Math.min(lowA * lowB, lowA * highB), Math.min(highA * lowB, highA * highB));
                    high = Math.max(Math.max(lowA * lowB, lowA * highB), Math.max(highA * lowB, highA * highB));
                    break;
                case BELOW:
                    boolean byValue = names.signedAlike(steps.as[step], steps.bs[step]);
                    low = byValue && highA < lowB ? 1 : 0;
                    high = byValue && lowA >= highB ? 0 : 1;
                    break;
                default:
                    low = made(kind, lowA, lowB);
                    high = made(kind, highA, highB);
            }
        }
    }

    /** The least and the greatest TRUE value that each NAME is ever given. */
    private static final class Trues {
        final long[] least = new long[NAMES];
        final long[] greatest = new long[NAMES];
        boolean tooFar;
        boolean known;
        private final long[] values = new long[NAMES];
        private final Steps steps;
        private final Inputs inputs;

        Trues(Steps steps, Inputs inputs) {
            this.steps = steps;
            this.inputs = inputs;
        }

        void learn() {
            if (known) {
                return;
            }
            known = true;
            tooFar = false;
            Arrays.fill(least, 0);
            Arrays.fill(greatest, 0);
            for (int x = inputs.from[0]; x <= inputs.to[0] && !tooFar; x++) {
                for (int y = inputs.from[1]; y <= inputs.to[1] && !tooFar; y++) {
                    follow(x, y);
                }
            }
        }

        private void follow(int x, int y) {
            Arrays.fill(values, 0);
            give(0, x);
            give(1, y);
            for (int at = 0; at < steps.pathLength && !tooFar; at++) {
                perform(steps.path[at]);
            }
        }

        /** One value too far settles every NEED, so no value goes on from there and no long runs over. */
        private void perform(int step) {
            int kind = steps.kinds[step];
            long a = steps.valueOfA(step, values);
            long b = steps.valueOfB(step, values);
            if (kind == TIMES && isProductTooFar(a, b)) {
                tooFar = true;
            } else {
                give(steps.targets[step], made(kind, a, b));
            }
        }

        private static boolean isProductTooFar(long a, long b) {
            return a != 0 && Math.abs(b) > FARTHEST_TRUE / Math.abs(a);
        }

        private void give(int name, long value) {
            values[name] = value;
            least[name] = Math.min(least[name], value);
            greatest[name] = Math.max(greatest[name], value);
            if (Math.abs(value) > FARTHEST_TRUE) {
                tooFar = true;
            }
        }
    }
}
