/** Promises 7 to 13, sentence by sentence; each also at no STEPS, at one RUN, at the ends of the SPANS, at 24 STEPS. */
public final class EdgesOfPromises7To13Test extends Edges {
    private static final int[] NO_STEPS = {LOWEST, -24, -1, 10, 11, 23, 24, 25, HIGHEST};
    private static final int[] NO_XS = {LOWEST, -100000, -4, 5, 100000, HIGHEST};
    private static final int[] NO_YS = {LOWEST, -100000, 9, 13, 100000, HIGHEST};

    public static void main(String[] args) {
        EdgesOfPromises7To13Test test = new EdgesOfPromises7To13Test();
        test.promise7();
        test.promise8();
        test.promise9();
        test.promise10();
        test.promise11();
        test.promise12();
        test.promise13();
        test.check.end();
    }

    private void promise7() {
        check.of("Promise 7: run");
        check.holds("What a NAME has at the end of a RUN", this::promise7AtTheEnd);
        check.holds("-2147483648 if there is no such NAME", this::promise7NoName);
        check.holds("or RUN", this::promise7NoRun);
        check.holds("(at no STEPS, at one RUN)", this::promise7NoSteps);
        check.holds("(at the ends of the SPANS)", this::promise7Ends);
        check.holds("(with 24 STEPS)", this::promise7TwentyFour);
    }

    private void promise8() {
        check.of("Promise 8: first");
        check.holds("The first STEP that goes over in a RUN", this::promise8First);
        check.holds("NONE if none does", this::promise8NoneDoes);
        check.holds("or there is none such", this::promise8NoRun);
        check.holds("(at no STEPS, at one RUN)", this::promise8NoSteps);
        check.holds("(at the ends of the SPANS)", this::promise8Ends);
        check.holds("(with 24 STEPS)", this::promise8TwentyFour);
    }

    private void promise9() {
        check.of("Promise 9: judge");
        check.holds("JUDGED", this::promise9Judged);
        check.holds("NONE if there is no such STEP", this::promise9NoStep);
        check.holds("(at one RUN)", this::promise9OneRun);
        check.holds("(at the ends of the SPANS)", this::promise9Ends);
        check.holds("(with 24 STEPS)", this::promise9TwentyFour);
    }

    private void promise10() {
        check.of("Promise 10: over");
        check.holds("OVER", this::promise10Over);
        check.holds("NONE likewise", this::promise10NoStep);
        check.holds("(at one RUN)", this::promise10OneRun);
        check.holds("(at the ends of the SPANS)", this::promise10Ends);
        check.holds("(with 24 STEPS)", this::promise10TwentyFour);
    }

    private void promise11() {
        check.of("Promise 11: shown");
        check.holds("The first RUN in which a STEP goes over (by x, of one x by y)", this::promise11First);
        check.holds("32 times how much x is above the SPAN's begin, and y likewise", this::promise11Number);
        check.holds("NONE if in none", this::promise11InNone);
        check.holds("or there is none such", this::promise11NoStep);
        check.holds("(at one RUN)", this::promise11OneRun);
        check.holds("(with 24 STEPS)", this::promise11TwentyFour);
    }

    private void promise12() {
        check.of("Promise 12: turned");
        check.holds("In how many RUNS a BELOW is TURNED", this::promise12Turned);
        check.holds("NONE if there is none such", this::promise12NoBelow);
        check.holds("(at one RUN)", this::promise12OneRun);
        check.holds("(at the ends of the SPANS)", this::promise12Ends);
        check.holds("(with 24 STEPS)", this::promise12TwentyFour);
    }

    private void promise13() {
        check.of("Promise 13: ends");
        check.holds("The least (what 0) or greatest (1) value", this::promise13LeastAndGreatest);
        check.holds("behind all STEPS", this::promise13BehindAll);
        check.holds("-2147483648 for others", this::promise13NoWhat);
        check.holds("or if there is none such", this::promise13NoName);
        check.holds("(at no STEPS, at one RUN)", this::promise13NoSteps);
        check.holds("(with 24 STEPS)", this::promise13TwentyFour);
    }

    /** 24 STEPS, of which each but the last three is done 12 times; NAME 2 gets 20 times 12 times x. */
    private static SumsOver counting() {
        SumsOver s = spans(-31, 0, 0, 31);
        s.step(LOOP, 0, 0, 12);
        for (int step = 1; step <= 20; step++) {
            s.step(ADD, 2, 2, 0);
        }
        s.step(END, 0, 0, 0);
        s.step(ADD, 3, 2, 1);
        s.step(BELOW, 4, 3, 2);
        return s;
    }

    // ---- 7

    private void promise7AtTheEnd() {
        SumsOver s = spans(-3, 4, 10, 12);
        s.step(SET, 2, 0, 5);
        s.step(COPY, 3, 2, 0);
        s.step(SET, 2, 0, 6);
        due("the last value of two", s.run(-3, 10, 2), 6);
        due("the value at its time", s.run(-3, 10, 3), 5);
        s.step(SET, 0, 0, 1);
        due("an INPUT that is set", s.run(-3, 10, 0), 1);
        due("RUNS stay those of the SPAN", s.run(4, 12, 0), 1);
        due("the value set isn't another x", s.run(5, 12, 0), NO_VALUE);
    }

    private void promise7NoName() {
        for (int n : NO_NAMES) {
            refusedInAll("run(-3, 10, " + n + ")", s -> s.run(-3, 10, n), NO_VALUE);
            refusedInAll("run(0, 0, " + n + ")", s -> s.run(0, 0, n), NO_VALUE);
        }
    }

    private void promise7NoRun() {
        for (int x : NO_XS) {
            refusedInAll("run(" + x + ", 10, 2)", s -> s.run(x, 10, 2), NO_VALUE);
            refusedInAll("run(" + x + ", 0, 0)", s -> s.run(x, 0, 0), NO_VALUE);
        }
        for (int y : NO_YS) {
            refusedInAll("run(-3, " + y + ", 2)", s -> s.run(-3, y, 2), NO_VALUE);
            refusedInAll("run(0, " + y + ", 1)", s -> s.run(0, y, 1), NO_VALUE);
        }
        refusedInAll("run(5, 13, 6)", s -> s.run(5, 13, 6), NO_VALUE);
    }

    private void promise7NoSteps() {
        SumsOver s = oneRun(-9, 31);
        due("x", s.run(-9, 31, 0), -9);
        due("y", s.run(-9, 31, 1), 31);
        for (int n = 2; n <= 5; n++) {
            due("NAME " + n, s.run(-9, 31, n), 0);
        }
        due("x above", s.run(-8, 31, 0), NO_VALUE);
        due("x below", s.run(-10, 31, 0), NO_VALUE);
        due("y above", s.run(-9, 32, 0), NO_VALUE);
        due("y below", s.run(-9, 30, 0), NO_VALUE);
    }

    private void promise7Ends() {
        SumsOver s = spans(-100000, -99969, 99969, 100000);
        s.name(2, 31, true);
        s.name(0, 18, true);
        s.name(1, 18, true);
        s.step(LESS_BY, 2, 1, 0);
        due("least x, least y", s.run(-100000, 99969, 2), 199969);
        due("least x, greatest y", s.run(-100000, 100000, 2), 200000);
        due("greatest x, least y", s.run(-99969, 99969, 2), 199938);
        due("greatest x, greatest y", s.run(-99969, 100000, 2), 199969);
        due("below x", s.run(-100001, 99969, 2), NO_VALUE);
        due("above x", s.run(-99968, 99969, 2), NO_VALUE);
        due("below y", s.run(-100000, 99968, 2), NO_VALUE);
        due("above y", s.run(-100000, 100001, 2), NO_VALUE);
    }

    private void promise7TwentyFour() {
        SumsOver s = counting();
        due("24", s.count(0), 24);
        due("20 times 12 times -31", s.run(-31, 0, 2), -7440);
        due("and y", s.run(-31, 31, 3), -7409);
        due("the last STEP isn't TURNED", s.run(-31, 31, 4), 0);
        s.name(2, 8, true);
        due("by 256", s.run(-31, 31, 2), -7440 + 29 * 256);
        s.mode(1);
        due("held", s.run(-31, 31, 2), -128);
    }

    // ---- 8

    private void promise8First() {
        SumsOver s = spans(0, 9, 0, 0);
        s.name(2, 4, true);
        s.name(3, 3, true);
        s.step(COPY, 2, 0, 0);
        s.step(COPY, 3, 0, 0);
        s.step(SET, 3, 0, 4);
        due("all three: the lowest", s.first(9, 0), 0);
        due("two", s.first(4, 0), 1);
        due("the last alone", s.first(3, 0), 2);
        s.mean(2, true);
        due("MEANT ones, too", s.first(3, 0), 2);
        s.mode(1);
        due("by MODE 1, too", s.first(8, 0), 0);
        SumsOver loop = oneRun(1, 0);
        loop.name(2, 2, true);
        loop.name(3, 2, true);
        loop.step(LOOP, 0, 0, 2);
        loop.step(ADD, 2, 2, 0);
        loop.step(SHIFT, 3, 0, 1);
        due("STEP 1 goes over at the second time", loop.over(1), 1);
        due("STEP 2 at the first", loop.first(1, 0), 2);
    }

    private void promise8NoneDoes() {
        SumsOver s = spans(-8, 8, 0, 0);
        s.name(2, 4, true);
        s.step(COPY, 2, 0, 0);
        due("-8", s.first(-8, 0), NONE);
        due("7", s.first(7, 0), NONE);
        due("8", s.first(8, 0), 0);
        s.name(0, 4, true);
        due("x goes over as it is put, the STEP doesn't", s.first(8, 0), NONE);
    }

    private void promise8NoRun() {
        for (int x : NO_XS) {
            refusedInAll("first(" + x + ", 10)", s -> s.first(x, 10), NONE);
        }
        for (int y : NO_YS) {
            refusedInAll("first(-3, " + y + ")", s -> s.first(-3, y), NONE);
        }
        due("but there is one that goes over", program().first(4, 12), 1);
    }

    private void promise8NoSteps() {
        SumsOver s = oneRun(100000, -100000);
        due("no STEPS", s.first(100000, -100000), NONE);
        s.step(COPY, 3, 0, 0);
        due("a STEP that can't", s.first(100000, -100000), NONE);
        s.name(2, 2, true);
        s.step(SET, 2, 0, 2);
        due("the one RUN", s.first(100000, -100000), 1);
        due("beside it", s.first(99999, -100000), NONE);
    }

    private void promise8Ends() {
        SumsOver s = spans(-3, 4, 10, 12);
        s.name(2, 4, true);
        s.step(LESS_BY, 2, 1, 0);
        due("10 and 3", s.first(-3, 10), 0);
        due("12 and 3", s.first(-3, 12), 0);
        due("10 less 4", s.first(4, 10), NONE);
        due("12 less 4", s.first(4, 12), 0);
        due("below x", s.first(-4, 10), NONE);
        due("above y", s.first(-3, 13), NONE);
        due("below y", s.first(-3, 9), NONE);
        due("above x", s.first(5, 12), NONE);
    }

    private void promise8TwentyFour() {
        SumsOver s = twentyFour();
        due("the first of all", s.first(31, 1), 0);
        due("one in between", s.first(20, 1), 11);
        due("the 24th", s.first(8, 1), 23);
        due("none", s.first(7, 1), NONE);
        SumsOver loop = counting();
        loop.name(3, 2, true);
        due("the 23rd", loop.first(-31, 0), 22);
        loop.name(2, 14, true);
        due("-7440 fits", loop.first(-31, 0), 22);
        loop.name(2, 13, true);
        due("-7440 doesn't: the STEP with which -4123 comes", loop.first(-31, 0), (4123 / 31 - 1) % 20 + 1);
    }

    /** 24 STEPS; STEP n goes over if x is 31 less n or more. */
    private static SumsOver twentyFour() {
        SumsOver s = spans(0, 31, 1, 1);
        s.mode(1);
        s.name(0, 5, false);
        for (int step = 0; step < 24; step++) {
            s.step(ADD, 0, 0, 1);
        }
        return s;
    }

    // ---- 9

    private static final int[] JUDGED = {0, 2, 0, 2, 0, 0, 1, 0, 3, 3};
    private static final int[] OVER = {0, 23, 0, 9, 0, 0, 0, 0, 24, 24};
    private static final int[] SHOWN = {NONE, 1, NONE, 0, NONE, NONE, NONE, NONE, 0, 0};

    private void promise9Judged() {
        SumsOver s = program();
        for (int step = 0; step < JUDGED.length; step++) {
            due("STEP " + step, s.judge(step), JUDGED[step]);
            s.mean(step, true);
            due("MEANT, STEP " + step, s.judge(step), JUDGED[step]);
        }
    }

    private void promise9NoStep() {
        for (int step : NO_STEPS) {
            refused("judge(" + step + ")", Edges::program, s -> s.judge(step), NONE);
        }
        refused("the first of none", SumsOver::new, s -> s.judge(0), NONE);
        refused("behind 24", Edges::full, s -> s.judge(24), NONE);
    }

    private void promise9OneRun() {
        SumsOver s = oneRun(4, -4);
        s.name(2, 3, true);
        s.step(COPY, 2, 0, 0);
        s.step(COPY, 2, 1, 0);
        s.step(LESS_BY, 2, 0, 0);
        s.step(LOOP, 0, 0, 1);
        due("4 goes over in all", s.judge(0), 3);
        due("-4 doesn't", s.judge(1), 0);
        due("4 less 4 can't", s.judge(2), 0);
        due("a LOOP", s.judge(3), 0);
        s.step(SET, 3, 0, 32768);
        s.step(LESS_BY, 2, 3, 3);
        due("by SPANS it COULD", s.judge(5), 1);
    }

    /** x times y is 16 in one RUN alone: in the first, or in the last. */
    private static SumsOver corner(boolean first) {
        SumsOver s = first ? spans(-4, 3, -4, 3) : spans(-3, 4, -3, 4);
        s.name(2, 5, true);
        s.step(TIMES, 2, 0, 1);
        return s;
    }

    private void promise9Ends() {
        due("in the first RUN", corner(true).judge(0), 2);
        due("in the last RUN", corner(false).judge(0), 2);
        SumsOver s = corner(true);
        s.span(0, -3, 3);
        due("without that x", s.judge(0), 0);
        s.span(0, -4, -4);
        due("just that x", s.judge(0), 2);
        s.span(1, -3, 3);
        due("without that y", s.judge(0), 0);
        s.span(1, -4, -4);
        due("just that RUN", s.judge(0), 3);
    }

    private void promise9TwentyFour() {
        SumsOver s = twentyFour();
        for (int step = 0; step < 24; step++) {
            due("STEP " + step, s.judge(step), 2);
        }
        s.span(0, 8, 31);
        due("the last in all RUNS", s.judge(23), 3);
        due("the one before", s.judge(22), 2);
        s.span(0, 0, 7);
        for (int step = 0; step < 24; step++) {
            due("can't, STEP " + step, s.judge(step), 0);
        }
    }

    // ---- 10

    private void promise10Over() {
        SumsOver s = program();
        for (int step = 0; step < OVER.length; step++) {
            due("STEP " + step, s.over(step), OVER[step]);
            s.mean(step, true);
            due("MEANT, STEP " + step, s.over(step), OVER[step]);
        }
        SumsOver most = spans(0, 31, 0, 31);
        most.name(2, 2, true);
        most.step(SET, 2, 0, 2);
        due("in all of the most RUNS", most.over(0), 1024);
    }

    private void promise10NoStep() {
        for (int step : NO_STEPS) {
            refused("over(" + step + ")", Edges::program, s -> s.over(step), NONE);
        }
        refused("the first of none", SumsOver::new, s -> s.over(0), NONE);
        refused("behind 24", Edges::full, s -> s.over(24), NONE);
    }

    private void promise10OneRun() {
        SumsOver s = oneRun(4, -4);
        s.name(2, 3, true);
        s.step(LOOP, 0, 0, 12);
        s.step(COPY, 2, 0, 0);
        s.step(COPY, 2, 1, 0);
        s.step(END, 0, 0, 0);
        due("LOOP", s.over(0), 0);
        due("4, 12 times", s.over(1), 1);
        due("-4", s.over(2), 0);
        due("END", s.over(3), 0);
    }

    private void promise10Ends() {
        due("in the first RUN", corner(true).over(0), 1);
        due("in the last RUN", corner(false).over(0), 1);
        SumsOver s = corner(true);
        s.span(0, -3, 4);
        due("in none", s.over(0), 0);
        s.span(1, -3, 4);
        due("in the last", s.over(0), 1);
    }

    private void promise10TwentyFour() {
        SumsOver s = twentyFour();
        for (int step = 0; step < 24; step++) {
            due("STEP " + step, s.over(step), step + 1);
        }
    }

    // ---- 11

    private void promise11First() {
        SumsOver s = spans(0, 3, 0, 3);
        s.name(2, 3, true);
        s.step(ADD, 2, 0, 1);
        due("the lesser x, though its y is greater", s.shown(0), 32 * 1 + 3);
        s.step(LESS_BY, 2, 1, 0);
        due("none", s.shown(1), NONE);
        s.step(SHIFT, 2, 1, 1);
        due("of one x the lesser y", s.shown(2), 2);
        s.step(SHIFT, 2, 0, 1);
        due("the lesser x", s.shown(3), 32 * 2);
        SumsOver t = program();
        for (int step = 0; step < SHOWN.length; step++) {
            due("STEP " + step, t.shown(step), SHOWN[step]);
        }
    }

    /** The last STEP goes over in the RUN of 0 and 0 alone, which is that far above both begins. */
    private static SumsOver justOne(int x, int y) {
        SumsOver s = spans(-x, 31 - x, -y, 31 - y);
        s.step(TIMES, 2, 0, 0);
        s.step(TIMES, 3, 1, 1);
        s.step(ADD, 2, 2, 3);
        s.step(SET, 4, 0, 1);
        s.step(MIN, 2, 2, 4);
        s.name(5, 2, false);
        s.step(LESS_BY, 5, 2, 4);
        return s;
    }

    private void promise11Number() {
        int[] offsets = {0, 1, 15, 30, 31};
        for (int x : offsets) {
            for (int y : offsets) {
                SumsOver s = justOne(x, y);
                due(x + " and " + y, s.shown(5), 32 * x + y);
                due(x + " and " + y + ", OVER", s.over(5), 1);
            }
        }
        SumsOver far = spans(-100000, -99969, 99969, 100000);
        far.name(0, 18, true);
        far.name(1, 18, true);
        far.step(COPY, 2, 1, 0);
        far.step(ADD, 3, 0, 1);
        far.name(3, 5, true);
        due("the first RUN", far.shown(0), 0);
        due("sums are -31 .. 31: -17 is in the first x", far.shown(1), 0);
        far.name(3, 6, true);
        due("-31 fits", far.shown(1), NONE);
        far.name(3, 5, false);
        far.span(1, 100000, 100000);
        due("0 .. 31 fit", far.shown(1), NONE);
        far.name(3, 4, false);
        due("16 doesn't", far.shown(1), 32 * 16);
        far.name(3, 5, true);
        far.span(0, -100000, -100000);
        far.span(1, 99990, 100000);
        due("-10 .. 0 fit", far.shown(1), NONE);
        far.span(0, -99990, -99990);
        due("16 is none of 0 .. 10", far.shown(1), NONE);
        far.span(0, -99980, -99980);
        due("10 .. 20: 16 is the seventh", far.shown(1), 6);
    }

    private void promise11InNone() {
        SumsOver s = program();
        due("JUDGED 0", s.shown(0), NONE);
        due("JUDGED 1", s.shown(6), NONE);
        due("LOOP", s.shown(2), NONE);
        due("END", s.shown(4), NONE);
        due("once known, then not any more", s.shown(9), 0);
        s.name(2, 16, true);
        due("not any more", s.shown(9), NONE);
    }

    private void promise11NoStep() {
        for (int step : NO_STEPS) {
            refused("shown(" + step + ")", Edges::program, s -> s.shown(step), NONE);
        }
        refused("the first of none", SumsOver::new, s -> s.shown(0), NONE);
        refused("behind 24", Edges::full, s -> s.shown(24), NONE);
    }

    private void promise11OneRun() {
        SumsOver s = oneRun(-100000, 100000);
        s.step(SET, 2, 0, 32768);
        s.step(SET, 2, 0, 32767);
        due("32768", s.shown(0), 0);
        due("32767", s.shown(1), NONE);
    }

    private void promise11TwentyFour() {
        SumsOver s = twentyFour();
        for (int step = 0; step < 24; step++) {
            due("STEP " + step, s.shown(step), 32 * (31 - step));
        }
    }

    // ---- 12

    private void promise12Turned() {
        SumsOver s = program();
        due("x below 0, each y", s.turned(7), 9);
        s.mean(7, true);
        due("MEANT", s.turned(7), 9);
        s.mode(1);
        due("by MODE 1", s.turned(7), 9);
        s.name(3, 6, true);
        due("both are SIGNED", s.turned(7), 0);
        s.name(0, 16, false);
        due("x isn't", s.turned(7), 0);
        s.mode(0);
        s.name(3, 6, false);
        due("neither is", s.turned(7), 0);
    }

    private void promise12NoBelow() {
        SumsOver s = program();
        for (int step = 0; step < 10; step++) {
            int asked = step;
            if (step != 7) {
                refused("turned(" + step + ")", Edges::program, o -> o.turned(asked), NONE);
            }
        }
        due("a BELOW", s.turned(7), 9);
        s.step(COPY, 2, 0, 0);
        s.step(MIN, 2, 0, 3);
        due("COPY", s.turned(10), NONE);
        due("MIN", s.turned(11), NONE);
        for (int step : NO_STEPS) {
            refused("turned(" + step + ")", Edges::program, o -> o.turned(step), NONE);
        }
        refused("the first of none", SumsOver::new, o -> o.turned(0), NONE);
        refused("behind 24", Edges::full, o -> o.turned(24), NONE);
        SumsOver gone = new SumsOver();
        gone.step(BELOW, 2, 0, 1);
        gone.back();
        due("a BELOW that is gone", gone.turned(0), NONE);
        gone.step(SET, 2, 0, 1);
        due("a SET in its place", gone.turned(0), NONE);
    }

    private static SumsOver below(int x0, int x1) {
        SumsOver s = spans(x0, x1, 0, 31);
        s.name(1, 5, false);
        s.step(BELOW, 2, 0, 1);
        return s;
    }

    private void promise12OneRun() {
        SumsOver s = below(-1, -1);
        s.span(1, 0, 0);
        due("-1 and 0", s.turned(0), 1);
        s.span(0, 0, 0);
        due("0 and 0", s.turned(0), 0);
        s.span(0, 1, 1);
        due("1 and 0", s.turned(0), 0);
    }

    private void promise12Ends() {
        due("all RUNS", below(-32, -1).turned(0), 1024);
        due("the first x", below(-1, 30).turned(0), 32);
        due("all but the last x", below(-31, 0).turned(0), 31 * 32);
        due("none", below(0, 31).turned(0), 0);
        SumsOver s = below(-1, 30);
        s.name(0, 5, true);
        due("as x is put", s.turned(0), turnedIn5Bits());
    }

    /** -1 has the rest 31, which is below no y; x of 16 .. 30 is put below 0 and has the rest x. */
    private static int turnedIn5Bits() {
        int runs = 32;
        for (int x = 16; x <= 30; x++) {
            int ysNotAbove = x + 1;
            runs += ysNotAbove;
        }
        return runs;
    }

    private void promise12TwentyFour() {
        SumsOver s = spans(-3, 4, 10, 12);
        s.name(1, 16, false);
        for (int step = 0; step < 24; step++) {
            s.step(BELOW, 2, step % 3 == 0 ? 1 : 0, step % 3 == 1 ? 1 : 0);
        }
        for (int step = 0; step < 24; step++) {
            due("STEP " + step, s.turned(step), step % 3 == 2 ? 0 : 9);
        }
        due("none behind them", s.turned(24), NONE);
    }

    // ---- 13

    private void promise13LeastAndGreatest() {
        SumsOver s = program();
        int[] least = {-3, 10, -8, 0, -8, 0};
        int[] greatest = {4, 12, 7, 63, 7, 1};
        for (int n = 0; n <= 5; n++) {
            dueEnds("NAME " + n, s, n, least[n], greatest[n]);
        }
        s.mode(1);
        int[] least1 = {-3, 10, 7, 63, -8, 0};
        for (int n = 0; n <= 5; n++) {
            dueEnds("by MODE 1, NAME " + n, s, n, least1[n], greatest[n]);
        }
        SumsOver widest = new SumsOver();
        widest.name(2, 31, false);
        widest.name(3, 31, true);
        widest.step(SET, 2, 0, -1);
        widest.step(COPY, 3, 2, 0);
        dueEnds("31 bits without a sign", widest, 2, 0, 2147483647);
        dueEnds("31 bits with a sign", widest, 3, -1073741824, 1073741823);
    }

    private void promise13BehindAll() {
        SumsOver s = spans(-3, 4, 10, 12);
        s.step(COPY, 2, 0, 0);
        dueEnds("behind one", s, 2, -3, 4);
        s.step(ADD, 2, 2, 1);
        dueEnds("behind two", s, 2, 7, 16);
        s.step(SET, 0, 0, 9);
        dueEnds("an INPUT that is set", s, 0, 9, 9);
        s.back();
        dueEnds("an INPUT that isn't any more", s, 0, -3, 4);
    }

    private void promise13NoWhat() {
        for (int what : new int[] {LOWEST, -2, -1, 2, 3, HIGHEST}) {
            refusedInAll("ends(2, " + what + ")", s -> s.ends(2, what), NO_VALUE);
        }
    }

    private void promise13NoName() {
        for (int n : NO_NAMES) {
            refusedInAll("ends(" + n + ", 0)", s -> s.ends(n, 0), NO_VALUE);
            refusedInAll("ends(" + n + ", 1)", s -> s.ends(n, 1), NO_VALUE);
        }
        refusedInAll("ends(6, 2)", s -> s.ends(6, 2), NO_VALUE);
    }

    private void promise13NoSteps() {
        SumsOver s = spans(-16, 15, 0, 31);
        dueEnds("x", s, 0, -16, 15);
        dueEnds("y", s, 1, 0, 31);
        dueEnds("another", s, 5, 0, 0);
        s.name(0, 5, true);
        s.name(1, 5, false);
        dueEnds("x just fits", s, 0, -16, 15);
        dueEnds("y just fits", s, 1, 0, 31);
        s.name(0, 4, true);
        s.name(1, 4, false);
        dueEnds("x doesn't", s, 0, -8, 7);
        dueEnds("y doesn't", s, 1, 0, 15);
        SumsOver one = oneRun(8, -8);
        dueEnds("one RUN's x", one, 0, 8, 8);
        dueEnds("one RUN's y", one, 1, -8, -8);
        one.name(0, 4, true);
        one.name(1, 4, true);
        dueEnds("one RUN's x goes over", one, 0, -8, 7);
        dueEnds("one RUN's y just fits", one, 1, -8, -8);
    }

    private void promise13TwentyFour() {
        SumsOver s = twentyFour();
        dueEnds("24 times 1 more, held at 31", s, 0, 24, 31);
        s.mode(0);
        dueEnds("by MODE 0", s, 0, 0, 31);
        s.name(0, 16, false);
        dueEnds("none goes over", s, 0, 24, 55);
        SumsOver loop = counting();
        dueEnds("20 times 12 times x", loop, 2, -7440, 0);
        dueEnds("and y", loop, 3, -7440, 31);
        dueEnds("the last STEP", loop, 4, 0, 1);
    }
}
