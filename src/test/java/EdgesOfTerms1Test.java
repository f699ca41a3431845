/** "Terms" up to "==== 2.", sentence by sentence: NAMES, STEPS, what is PUT, BELOW. */
public final class EdgesOfTerms1Test extends Edges {
    public static void main(String[] args) {
        EdgesOfTerms1Test test = new EdgesOfTerms1Test();
        test.names();
        test.stepsAndKinds();
        test.putting();
        test.below();
        test.check.end();
    }

    private void names() {
        check.of("Terms, NAMES");
        check.holds("NAMES are 0 .. 5", this::sixNames);
        check.holds("2 .. 31 bits; 16 at first", this::widths);
        check.holds("SIGNED (so at first)", this::signs);
        check.holds("from minus 2 to the power of (WIDTH less 1) up to 2 to that power less 1", this::signedRange);
        check.holds("or from 0 up to 2 to the power of WIDTH less 1", this::unsignedRange);
        check.holds("INPUTS are NAMES 0 and 1", this::inputs);
        check.holds("of at most 32 numbers (0 .. 0 at first)", this::spanOfAll);
        check.holds("NAME 0 is x, NAME 1 is y (as they are put, see below), all others are 0", this::beginning);
    }

    private void stepsAndKinds() {
        check.of("Terms, STEPS");
        check.holds("STEPS have numbers from 0 on, at most 24", this::stepNumbers);
        check.holds("0 SET: TARGET becomes b", this::set);
        check.holds("1 COPY: it becomes a's value", this::copy);
        check.holds("2 ADD, 3 LESS BY, 4 TIMES", this::addLessTimes);
        check.holds("5 SHIFT: a's times 2 to the power of b (0 .. 12)", this::shift);
        check.holds("6 MIN: the lesser one of a's and b's", this::min);
        check.holds("7 BELOW: 1 if a's is below b's, else 0", this::belowOfLike);
        check.holds("8 LOOP: the STEPS behind it up to the next END are done b times (1 .. 12)", this::loop);
        check.holds("A LOOP within a LOOP can't be", this::loopWithin);
        check.holds("nor an END without one", this::endWithout);
        check.holds("a LOOP whose END isn't there yet goes up to the last STEP", this::loopUpToLast);
    }

    private void putting() {
        check.of("Terms, to PUT");
        check.holds("if it is in its RANGE, it is v", this::putInRange);
        check.holds("by MODE 0, that number of its RANGE that differs from v by a multiple", this::putByMode0);
        check.holds("by MODE 1 the end of its RANGE that is nearer", this::putByMode1);
        check.holds("Else the STEP GOES OVER", this::putFarthest);
        check.holds("INPUTS are put likewise, as a RUN begins", this::inputsArePut);
        check.holds("that counts for no STEP", this::inputsCountForNoStep);
    }

    private void below() {
        check.of("Terms, BELOW");
        check.holds("as rests by 2 to the power of the greater WIDTH of both (0 or more)", this::belowByRests);
        check.holds("NAMES one of which is SIGNED and the other one isn't", this::belowOfOneSign);
        check.holds("TURNED in a RUN, if it answers otherwise than the values themselves would", this::turns);
        check.holds("at some time", this::turnsAtSomeTime);
    }

    // ---- NAMES

    private void sixNames() {
        for (int n = 0; n <= 5; n++) {
            SumsOver s = new SumsOver();
            due("name " + n, s.name(n, 9, false), true);
            due("a TARGET, " + n, s.step(SET, n, 0, 40 + n), 0);
            due("an a, " + n, s.step(COPY, 5 - n, n, 0), 1);
            due("a b, " + n, s.step(ADD, n, n, n), 2);
            due("its value, " + n, s.run(0, 0, n), 2 * (40 + n));
            due("the other's value, " + n, s.run(0, 0, 5 - n), 40 + n);
            dueEnds("its ends, " + n, s, n, 2 * (40 + n), 2 * (40 + n));
            due("its NEED, " + n, s.need(n), 7);
        }
        for (int n : NO_NAMES) {
            refused("name " + n, Edges::program, s -> s.name(n, 9, false) ? 1 : 0, 0);
            refused("run of " + n, Edges::program, s -> s.run(-3, 10, n), NO_VALUE);
        }
    }

    private void widths() {
        for (int n = 0; n <= 5; n++) {
            SumsOver s = new SumsOver();
            due("at first", s.count(10 + n), 16);
            for (int width = 2; width <= 31; width++) {
                due("told " + width, s.name(n, width, width % 2 == 0), true);
                due("has " + width, s.count(10 + n), width);
            }
        }
        for (int width : new int[] {LOWEST, -16, 0, 1, 32, 33, 64, HIGHEST}) {
            refused("of " + width + " bits", Edges::program, s -> s.name(2, width, false) ? 1 : 0, 0);
        }
    }

    private void signs() {
        SumsOver s = new SumsOver();
        for (int n = 0; n <= 5; n++) {
            due("at first " + n, s.count(20 + n), 1);
            s.name(n, 16, false);
            due("told not " + n, s.count(20 + n), 0);
            s.name(n, 16, true);
            due("told again " + n, s.count(20 + n), 1);
        }
        s.step(SET, 2, 0, -1);
        due("-1, SIGNED", s.judge(0), 0);
        s.name(2, 16, false);
        due("-1, not SIGNED", s.judge(0), 3);
    }

    private void signedRange() {
        for (int width = 2; width <= 31; width++) {
            SumsOver s = new SumsOver();
            s.name(2, width, true);
            powers(s, width - 1);
            long half = power(width - 1);
            dueFits("greatest of " + width, s, LESS_BY, 4, 3, half - 1);
            dueOver("one above " + width, s, COPY, 4, 0, -half, half - 1);
            dueFits("least of " + width, s, COPY, 5, 0, -half);
            dueOver("one below " + width, s, LESS_BY, 5, 3, half - 1, -half);
        }
    }

    private void unsignedRange() {
        for (int width = 2; width <= 31; width++) {
            SumsOver s = new SumsOver();
            s.name(2, width, false);
            powers(s, width - 1);
            s.name(0, 31, false);
            s.step(LESS_BY, 0, 4, 3);
            long whole = power(width);
            dueFits("greatest of " + width, s, ADD, 4, 0, whole - 1);
            dueOver("one above " + width, s, ADD, 4, 4, 0, whole - 1);
            dueFits("least of " + width, s, COPY, 1, 0, 0);
            dueOver("one below " + width, s, LESS_BY, 1, 3, whole - 1, 0);
        }
    }

    private void dueFits(String what, SumsOver s, int kind, int a, int b, long value) {
        int step = s.step(kind, 2, a, b);
        due(what + " is in its RANGE", s.judge(step), 0);
        due(what + ", first", s.first(0, 0), NONE);
        due(what + ", value", s.run(0, 0, 2), value);
        s.back();
    }

    private void dueOver(String what, SumsOver s, int kind, int a, int b, long byMode0, long byMode1) {
        int step = s.step(kind, 2, a, b);
        due(what + " isn't in its RANGE", s.judge(step), 3);
        due(what + ", first", s.first(0, 0), step);
        due(what + ", value by MODE 0", s.run(0, 0, 2), byMode0);
        s.mode(1);
        due(what + " isn't by MODE 1", s.judge(step), 3);
        due(what + ", value by MODE 1", s.run(0, 0, 2), byMode1);
        s.mode(0);
        s.back();
    }

    private void inputs() {
        SumsOver s = new SumsOver();
        due("0", s.span(0, 1, 2), true);
        due("1", s.span(1, 3, 4), true);
        for (int n : new int[] {LOWEST, -1, 2, 3, 4, 5, 6, HIGHEST}) {
            refused("span of " + n, Edges::program, o -> o.span(n, 0, 1) ? 1 : 0, 0);
        }
        due("x is NAME 0's", s.run(2, 3, 0), 2);
        due("y is NAME 1's", s.run(2, 3, 1), 3);
        due("x isn't y", s.run(3, 2, 0), NO_VALUE);
    }

    private void spanOfAll() {
        SumsOver s = new SumsOver();
        due("one RUN at first", s.count(1), 1);
        due("it is 0, 0", s.run(0, 0, 0), 0);
        for (int off = -1; off <= 1; off += 2) {
            due("not x " + off, s.run(off, 0, 0), NO_VALUE);
            due("not y " + off, s.run(0, off, 0), NO_VALUE);
        }
        due("32 numbers", s.span(0, -16, 15), true);
        due("32 RUNS", s.count(1), 32);
        refused("33 numbers", Edges::program, o -> o.span(0, -16, 16) ? 1 : 0, 0);
    }

    private void beginning() {
        SumsOver s = spans(-3, 4, 10, 12);
        s.step(ADD, 2, 2, 0);
        s.step(ADD, 3, 3, 1);
        s.step(ADD, 0, 0, 1);
        for (int again = 0; again < 2; again++) {
            due("NAME 2 was 0", s.run(-3, 12, 2), -3);
            due("NAME 3 was 0", s.run(-3, 12, 3), 12);
            due("NAME 0 was x", s.run(-3, 12, 0), 9);
            due("NAME 1 was y", s.run(-3, 12, 1), 12);
            due("NAME 4 is 0", s.run(4, 10, 4), 0);
            due("NAME 5 is 0", s.run(4, 10, 5), 0);
        }
    }

    // ---- STEPS

    private void stepNumbers() {
        SumsOver s = new SumsOver();
        for (int step = 0; step < 24; step++) {
            due("count before", s.count(0), step);
            due("number", s.step(SET, 2, 0, step), step);
        }
        due("24 STEPS", s.count(0), 24);
        due("the last was done last", s.run(0, 0, 2), 23);
        refused("one more", Edges::full, o -> o.step(SET, 2, 0, 1), NONE);
    }

    private void set() {
        SumsOver s = new SumsOver();
        s.name(2, 31, true);
        for (int b : new int[] {-100000, -99999, -1, 0, 1, 5, 6, 99999, 100000}) {
            s.step(SET, 2, 0, b);
            due("b " + b, s.run(0, 0, 2), b);
            dueEnds("b " + b, s, 2, b, b);
            s.back();
        }
    }

    private void copy() {
        SumsOver s = spans(-7, 7, 3, 3);
        s.step(COPY, 2, 0, 1);
        s.step(COPY, 3, 3, 0);
        s.step(COPY, 1, 4, 0);
        due("x", s.run(-7, 3, 2), -7);
        due("a itself stays", s.run(-7, 3, 0), -7);
        due("of itself", s.run(-7, 3, 3), 0);
        due("into an INPUT", s.run(-7, 3, 1), 0);
    }

    private void addLessTimes() {
        SumsOver s = spans(-7, 7, 3, 3);
        s.step(ADD, 2, 0, 1);
        s.step(LESS_BY, 3, 0, 1);
        s.step(TIMES, 4, 0, 1);
        s.step(LESS_BY, 5, 5, 5);
        due("ADD", s.run(-7, 3, 2), -4);
        due("LESS BY", s.run(-7, 3, 3), -10);
        due("TIMES", s.run(-7, 3, 4), -21);
        due("LESS BY itself", s.run(-7, 3, 5), 0);
        s.step(LESS_BY, 3, 1, 0);
        s.step(TIMES, 0, 0, 0);
        s.step(ADD, 1, 1, 1);
        due("LESS BY the other way", s.run(-7, 3, 3), 10);
        due("TIMES itself", s.run(-7, 3, 0), 49);
        due("ADD itself", s.run(-7, 3, 1), 6);
    }

    private void shift() {
        SumsOver s = spans(-7, 7, 0, 0);
        s.name(2, 31, true);
        for (int b = 0; b <= 12; b++) {
            due("by " + b, s.step(SHIFT, 2, 0, b), 0);
            due("7 by " + b, s.run(7, 0, 2), 7 * power(b));
            due("-7 by " + b, s.run(-7, 0, 2), -7 * power(b));
            due("0 by " + b, s.run(0, 0, 2), 0);
            s.back();
        }
    }

    private void min() {
        SumsOver s = spans(-7, 7, -1, 1);
        s.step(MIN, 2, 0, 1);
        s.step(MIN, 3, 1, 0);
        due("a's", s.run(-7, 1, 2), -7);
        due("b's", s.run(7, 1, 2), 1);
        due("b's, the other way", s.run(-7, 1, 3), -7);
        due("a's, the other way", s.run(7, -1, 3), -1);
        due("like ones", s.run(1, 1, 2), 1);
    }

    private void belowOfLike() {
        SumsOver s = spans(-2, 2, -2, 2);
        s.step(BELOW, 2, 0, 1);
        due("below", s.run(-2, -1, 2), 1);
        due("like", s.run(-1, -1, 2), 0);
        due("above", s.run(0, -1, 2), 0);
        s.step(BELOW, 2, 2, 2);
        due("itself", s.run(-2, 2, 2), 0);
    }

    private void loop() {
        for (int times = 1; times <= 12; times++) {
            SumsOver s = oneRun(1, 0);
            s.step(LOOP, 0, 0, times);
            s.step(ADD, 2, 2, 0);
            s.step(SHIFT, 3, 2, 0);
            s.step(END, 0, 0, 0);
            s.step(ADD, 4, 4, 0);
            due("times", s.run(1, 0, 2), times);
            due("every STEP of it", s.run(1, 0, 3), times);
            due("behind the END once", s.run(1, 0, 4), 1);
        }
        for (int times : new int[] {LOWEST, -1, 0, 13, 24, HIGHEST}) {
            refused("LOOP of " + times, Edges::program, s -> s.step(LOOP, 0, 0, times), NONE);
        }
        SumsOver two = oneRun(1, 0);
        two.step(LOOP, 0, 0, 12);
        two.step(END, 0, 0, 0);
        two.step(ADD, 2, 2, 0);
        two.step(LOOP, 0, 0, 2);
        two.step(ADD, 3, 3, 0);
        two.step(END, 0, 0, 0);
        due("up to the next END, not to the last", two.run(1, 0, 2), 1);
        due("the second LOOP", two.run(1, 0, 3), 2);
    }

    private void loopWithin() {
        refused("a LOOP in a LOOP", Edges::openLoop, s -> s.step(LOOP, 0, 0, 2), NONE);
        SumsOver s = openLoop();
        due("the END", s.step(END, 0, 0, 0), 12);
        due("a LOOP behind it", s.step(LOOP, 0, 0, 2), 13);
        due("a LOOP at once behind a LOOP", s.step(LOOP, 0, 0, 2), NONE);
    }

    private void endWithout() {
        refused("at first", SumsOver::new, s -> s.step(END, 0, 0, 0), NONE);
        refused("behind an END", Edges::program, s -> s.step(END, 0, 0, 0), NONE);
        SumsOver s = openLoop();
        due("in a LOOP", s.step(END, 0, 0, 0), 12);
        due("again", s.step(END, 0, 0, 0), NONE);
    }

    private void loopUpToLast() {
        SumsOver s = oneRun(1, 0);
        s.step(ADD, 2, 2, 0);
        s.step(LOOP, 0, 0, 5);
        due("nothing in it", s.run(1, 0, 2), 1);
        s.step(ADD, 2, 2, 0);
        due("one STEP in it", s.run(1, 0, 2), 6);
        s.step(ADD, 2, 2, 0);
        due("two STEPS in it", s.run(1, 0, 2), 11);
        dueEnds("by SPANS", s, 2, 11, 11);
        due("NEED", s.need(2), 5);
        s.step(END, 0, 0, 0);
        due("its END changes nothing", s.run(1, 0, 2), 11);
        SumsOver full = new SumsOver();
        full.step(SET, 3, 0, 1);
        full.step(LOOP, 0, 0, 12);
        for (int step = 2; step < 24; step++) {
            full.step(ADD, 2, 2, 3);
        }
        due("22 STEPS 12 times", full.run(0, 0, 2), 264);
    }

    // ---- to PUT

    private void putInRange() {
        for (int mode = 0; mode <= 1; mode++) {
            SumsOver s = new SumsOver();
            s.mode(mode);
            s.name(2, 4, true);
            s.name(3, 4, false);
            for (int v = -8; v <= 15; v++) {
                s.step(SET, 2, 0, v);
                s.step(SET, 3, 0, v);
                due("SIGNED, over, " + v, s.over(0), v > 7 ? 1 : 0);
                due("not SIGNED, over, " + v, s.over(1), v < 0 ? 1 : 0);
                if (v <= 7) due("SIGNED " + v, s.run(0, 0, 2), v);
                if (v >= 0) due("not SIGNED " + v, s.run(0, 0, 3), v);
                s.back();
                s.back();
            }
        }
    }

    private void putByMode0() {
        duePut(0, new int[][] {{8, -8, 8}, {-9, 7, 7}, {15, -1, 15}, {16, 0, 0}, {23, 7, 7}, {24, -8, 8}, {-1, -1, 15},
            {-16, 0, 0}, {-17, -1, 15}, {99999, -1, 15}, {-99999, 1, 1}, {100000, 0, 0}, {-100000, 0, 0}});
    }

    private void putByMode1() {
        duePut(1, new int[][] {{8, 7, 8}, {-9, -8, 0}, {15, 7, 15}, {16, 7, 15}, {-1, -1, 0}, {99999, 7, 15},
            {-99999, -8, 0}, {100000, 7, 15}, {-100000, -8, 0}});
    }

    /** Rows: a value, what a SIGNED NAME of 4 bits then has, and one that isn't. */
    private void duePut(int mode, int[][] rows) {
        for (int[] row : rows) {
            SumsOver s = new SumsOver();
            s.mode(mode);
            s.name(2, 4, true);
            s.name(3, 4, false);
            s.step(SET, 2, 0, row[0]);
            s.step(SET, 3, 0, row[0]);
            due(row[0] + " SIGNED", s.run(0, 0, 2), row[1]);
            due(row[0] + " not SIGNED", s.run(0, 0, 3), row[2]);
        }
    }

    /** The farthest values that can be: products of the ends of the widest RANGES. */
    private void putFarthest() {
        long most = power(31) - 1;
        long least = -power(30);
        dueProduct("most times most", most, most, new long[] {1, 1, most, power(30) - 1});
        dueProduct("least times least", least, least, new long[] {0, 0, most, power(30) - 1});
        dueProduct("least times most", least, most, new long[] {power(30), least, 0, least});
    }

    /** due: not SIGNED and SIGNED by MODE 0, the same by MODE 1. */
    private void dueProduct(String what, long a, long b, long[] due) {
        for (int mode = 0; mode <= 1; mode++) {
            SumsOver s = new SumsOver();
            int one = makeEnd(s, 0, a);
            int other = makeEnd(s, 1, b);
            s.name(2, 31, false);
            s.name(3, 31, true);
            s.mode(mode);
            int step = s.step(TIMES, 2, one, other);
            s.step(TIMES, 3, one, other);
            due(what + ", MODE " + mode + ", a", s.run(0, 0, one), a);
            due(what + ", MODE " + mode + ", b", s.run(0, 0, other), b);
            due(what + ", MODE " + mode + ", not SIGNED", s.run(0, 0, 2), due[2 * mode]);
            due(what + ", MODE " + mode + ", SIGNED", s.run(0, 0, 3), due[2 * mode + 1]);
            due(what + ", MODE " + mode + ", OVER", s.over(step) + s.over(step + 1), 2);
        }
    }

    /** A NAME gets the greatest value of 31 bits without a sign, or the least of 31 bits with one. */
    private static int makeEnd(SumsOver s, int name, long value) {
        s.name(name, 31, value < 0);
        s.step(SET, 4, 0, value < 0 ? -1 : 1);
        s.step(SHIFT, name, 4, 12);
        s.step(SHIFT, name, name, 12);
        s.step(SHIFT, name, name, 6);
        if (value > 0) {
            s.step(LESS_BY, 5, name, 4);
            s.name(5, 31, true);
            s.step(ADD, name, name, 5);
        }
        return name;
    }

    private void inputsArePut() {
        SumsOver s = spans(-9, 16, -9, 16);
        s.name(0, 4, true);
        s.name(1, 4, false);
        int[][] rows = {{-9, 7, 7, -8, 0}, {-8, -8, 8, -8, 0}, {-1, -1, 15, -1, 0}, {0, 0, 0, 0, 0}, {7, 7, 7, 7, 7},
            {8, -8, 8, 7, 8}, {15, -1, 15, 7, 15}, {16, 0, 0, 7, 15}};
        for (int mode = 0; mode <= 1; mode++) {
            s.mode(mode);
            for (int[] row : rows) {
                due("x " + row[0] + " by MODE " + mode, s.run(row[0], 0, 0), row[1 + 2 * mode]);
                due("y " + row[0] + " by MODE " + mode, s.run(0, row[0], 1), row[2 + 2 * mode]);
            }
        }
        SumsOver far = oneRun(-100000, 100000);
        due("-100000 in 16 bits", far.run(-100000, 100000, 0), -100000 + 131072);
        due("100000 in 16 bits", far.run(-100000, 100000, 1), 100000 - 131072);
        far.mode(1);
        due("-100000 by MODE 1", far.run(-100000, 100000, 0), -32768);
        due("100000 by MODE 1", far.run(-100000, 100000, 1), 32767);
    }

    private void inputsCountForNoStep() {
        for (int mode = 0; mode <= 1; mode++) {
            SumsOver s = oneRun(100, 100);
            s.mode(mode);
            s.name(0, 4, true);
            s.name(1, 4, false);
            due("no STEP, RUNS that go over", s.count(2), 0);
            s.step(SET, 2, 0, 1);
            due("first", s.first(100, 100), NONE);
            due("judge", s.judge(0), 0);
            due("over", s.over(0), 0);
            due("shown", s.shown(0), NONE);
            due("listed", s.listed(0), NONE);
            due("RUNS that go over", s.count(2), 0);
        }
    }

    // ---- BELOW

    /** Rows: WIDTH and value of the SIGNED one, of the other, SIGNED below the other, the other below it. */
    private static final int[][] RESTS = {
        {4, -1, 8, 254, 0, 1}, {4, -1, 8, 255, 0, 0}, {4, -2, 8, 255, 1, 0}, {4, -2, 8, 254, 0, 0},
        {4, -8, 8, 247, 0, 1}, {4, -8, 8, 248, 0, 0}, {4, -8, 8, 249, 1, 0},
        {8, -1, 4, 15, 0, 1}, {8, -128, 4, 15, 0, 1}, {8, 20, 4, 5, 0, 1}, {8, 15, 4, 15, 0, 0}, {8, 14, 4, 15, 1, 0},
        {4, -1, 4, 15, 0, 0}, {4, -1, 4, 14, 0, 1}, {4, -8, 4, 8, 0, 0}, {4, -8, 4, 9, 1, 0}, {4, 7, 4, 8, 1, 0},
        {2, -1, 31, 3, 0, 1}, {31, -1, 2, 3, 0, 1}, {31, -100000, 31, 100000, 0, 1}, {31, 0, 2, 0, 0, 0},
        {2, -2, 2, 3, 1, 0}, {2, -1, 2, 3, 0, 0},
    };

    private static SumsOver ofTwoSigns(int[] row) {
        SumsOver s = oneRun(row[1], row[3]);
        s.name(0, row[0], true);
        s.name(1, row[2], false);
        s.step(BELOW, 2, 0, 1);
        s.step(BELOW, 3, 1, 0);
        return s;
    }

    private static String rowText(int[] row) {
        return row[1] + " of " + row[0] + " bits and " + row[3] + " of " + row[2];
    }

    private void belowByRests() {
        for (int[] row : RESTS) {
            SumsOver s = ofTwoSigns(row);
            due(rowText(row), s.run(row[1], row[3], 2), row[4]);
            due(rowText(row) + ", the other way", s.run(row[1], row[3], 3), row[5]);
        }
        SumsOver widest = oneRun(-1, 0);
        widest.name(0, 31, true);
        widest.name(2, 31, false);
        widest.step(COPY, 2, 0, 0);
        widest.step(BELOW, 3, 0, 2);
        widest.step(BELOW, 4, 2, 0);
        due("the greatest of 31 bits is -1's rest", widest.run(-1, 0, 3) + widest.run(-1, 0, 4), 0);
    }

    private void belowOfOneSign() {
        int[][] rows = {{8, -1, 4, 5, 1, 0}, {4, 5, 8, -1, 0, 1}, {8, 20, 4, 5, 0, 1}, {4, 7, 8, 7, 0, 0}};
        for (int[] row : rows) {
            SumsOver s = ofTwoSigns(row);
            s.name(1, row[2], true);
            due(rowText(row), s.run(row[1], row[3], 2), row[4]);
            due(rowText(row) + ", the other way", s.run(row[1], row[3], 3), row[5]);
            due(rowText(row) + ", TURNED", s.turned(0) + s.turned(1), 0);
        }
        SumsOver neither = spans(0, 31, 0, 31);
        neither.name(0, 5, false);
        neither.name(1, 31, false);
        neither.step(BELOW, 2, 0, 1);
        due("neither is SIGNED, TURNED", neither.turned(0), 0);
        due("neither is SIGNED", neither.run(30, 31, 2), 1);
    }

    private void turns() {
        for (int[] row : RESTS) {
            SumsOver s = ofTwoSigns(row);
            int byValues = row[1] < row[3] ? 1 : 0;
            int byValuesBack = row[3] < row[1] ? 1 : 0;
            due(rowText(row), s.turned(0), row[4] != byValues ? 1 : 0);
            due(rowText(row) + ", the other way", s.turned(1), row[5] != byValuesBack ? 1 : 0);
        }
    }

    private void turnsAtSomeTime() {
        SumsOver first = oneRun(-1, 0);
        first.name(1, 16, false);
        first.step(LOOP, 0, 0, 3);
        first.step(BELOW, 2, 0, 1);
        first.step(SET, 0, 0, 5);
        due("at the first time alone", first.turned(1), 1);
        for (int times = 1; times <= 3; times++) {
            SumsOver last = oneRun(-1, 0);
            last.name(2, 16, false);
            last.step(LOOP, 0, 0, times);
            last.step(BELOW, 5, 3, 2);
            last.step(COPY, 3, 4, 0);
            last.step(COPY, 4, 0, 0);
            due("-1 comes at the third time, done " + times, last.turned(1), times == 3 ? 1 : 0);
        }
        SumsOver often = oneRun(-1, 0);
        often.name(1, 16, false);
        often.step(LOOP, 0, 0, 12);
        often.step(BELOW, 2, 0, 1);
        due("12 times are one RUN", often.turned(1), 1);
    }
}
