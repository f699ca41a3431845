/** Promises 1 to 6, sentence by sentence: what is told, and what is refused. */
public final class EdgesOfPromises1To6Test extends Edges {
    public static void main(String[] args) {
        EdgesOfPromises1To6Test test = new EdgesOfPromises1To6Test();
        test.promise1();
        test.promise2();
        test.promise3();
        test.promise4();
        test.promise5();
        test.promise6();
        test.check.end();
    }

    private void promise1() {
        check.of("Promise 1: A new object");
        check.holds("No STEPS", this::promise1NoSteps);
        check.holds("MODE 0", this::promise1Mode0);
        check.holds("A new object", this::promise1Alone);
    }

    private void promise2() {
        check.of("Promise 2: name");
        check.holds("WIDTH and SIGNED of a NAME: true", this::promise2True);
        check.holds("false if there is none such", this::promise2NoName);
        check.holds("or it can't be", this::promise2NoWidth);
    }

    private void promise3() {
        check.of("Promise 3: span");
        check.holds("A SPAN of an INPUT: true", this::promise3True);
        check.holds("false if there is none such", this::promise3NoInput);
        check.holds("from or to isn't -100000 .. 100000", this::promise3TooFar);
        check.holds("or to is below from", this::promise3ToBelowFrom);
        check.holds("or more than 31 above it", this::promise3TooLong);
    }

    private void promise4() {
        check.of("Promise 4: step");
        check.holds("A STEP more: its number", this::promise4Number);
        check.holds("NONE if there is no such KIND", this::promise4NoKind);
        check.holds("TARGET (of KINDS 0 to 7)", this::promise4NoTarget);
        check.holds("a (a NAME, of KINDS 1 to 7)", this::promise4NoA);
        check.holds("or b (a NAME, of KINDS 2, 3, 4, 6, 7", this::promise4NoB);
        check.holds("-100000 .. 100000 of SET", this::promise4Set);
        check.holds("as told of SHIFT and LOOP", this::promise4ShiftAndLoop);
        check.holds("a LOOP or END can't be", this::promise4LoopOrEnd);
        check.holds("or 24 came", this::promise4TwentyFour);
        check.holds("What a KIND doesn't need doesn't matter", this::promise4DoesNotMatter);
    }

    private void promise5() {
        check.of("Promise 5: back");
        check.holds("The last STEP goes", this::promise5Goes);
        check.holds("(and its mark)", this::promise5Mark);
        check.holds("false if there is none", this::promise5None);
    }

    private void promise6() {
        check.of("Promise 6: mode");
        check.holds("MODE: true", this::promise6True);
        check.holds("false if it isn't 0 or 1", this::promise6False);
    }

    // ---- 1

    private void promise1NoSteps() {
        SumsOver s = new SumsOver();
        due("count", s.count(0), 0);
        due("MEANT", s.count(3), 0);
        due("judge", s.judge(0), NONE);
        due("over", s.over(0), NONE);
        due("shown", s.shown(0), NONE);
        due("turned", s.turned(0), NONE);
        due("mean", s.mean(0, true), false);
        due("listed", s.listed(0), NONE);
        due("back", s.back(), false);
        due("its first STEP", s.step(SET, 2, 0, 1), 0);
    }

    private void promise1Mode0() {
        SumsOver s = new SumsOver();
        due("count", s.count(4), 0);
        s.step(SET, 2, 0, 32768);
        due("a value", s.run(0, 0, 2), -32768);
        dueEnds("by SPANS", s, 2, -32768, 32767);
    }

    private void promise1Alone() {
        Answers before = new Answers(new SumsOver());
        SumsOver other = full();
        other.mean(3, true);
        new Answers(new SumsOver()).dueAs(check, "while another is full", before);
    }

    // ---- 2

    private void promise2True() {
        for (int n = 0; n <= 5; n++) {
            for (int width = 2; width <= 31; width++) {
                SumsOver s = program();
                boolean signed = (n + width) % 2 == 0;
                due("NAME " + n + " of " + width, s.name(n, width, signed), true);
                due("its WIDTH", s.count(10 + n), width);
                due("its sign", s.count(20 + n), signed ? 1 : 0);
                due("the same again", s.name(n, width, signed), true);
                due("the other sign alone", s.name(n, width, !signed), true);
                due("its other sign", s.count(20 + n), signed ? 0 : 1);
                dueOthers(s, n);
            }
        }
        SumsOver s = spans(0, 9, 0, 0);
        s.step(COPY, 2, 0, 0);
        due("OVER in 16 bits", s.over(0), 0);
        s.name(2, 4, true);
        due("OVER in 4 bits", s.over(0), 2);
        due("JUDGED in 4 bits", s.judge(0), 2);
        s.name(2, 4, false);
        due("OVER in 4 bits without a sign", s.over(0), 0);
        due("JUDGED in 4 bits without a sign", s.judge(0), 0);
        s.name(2, 2, false);
        due("a value in 2 bits", s.run(9, 0, 2), 1);
    }

    private void dueOthers(SumsOver s, int n) {
        int[] widths = {16, 16, 4, 6, 4, 16};
        for (int other = 0; other <= 5; other++) {
            if (other != n) {
                due("WIDTH of " + other, s.count(10 + other), widths[other]);
                due("sign of " + other, s.count(20 + other), other == 3 ? 0 : 1);
            }
        }
    }

    private void promise2NoName() {
        for (int n : NO_NAMES) {
            refusedInAll("name(" + n + ", 8, false)", s -> s.name(n, 8, false));
        }
    }

    private void promise2NoWidth() {
        for (int width : new int[] {LOWEST, -2, -1, 0, 1, 32, 33, HIGHEST}) {
            refusedInAll("name(3, " + width + ", true)", s -> s.name(3, width, true));
            refusedInAll("name(0, " + width + ", false)", s -> s.name(0, width, false));
        }
        refusedInAll("name(6, 1, true)", s -> s.name(6, 1, true));
    }

    // ---- 3

    private void promise3True() {
        int[][] rows = {{0, 0}, {-100000, -100000}, {-100000, -99969}, {100000, 100000}, {99969, 100000}, {-31, 0},
            {0, 31}, {-16, 15}, {7, 8}};
        for (int input = 0; input <= 1; input++) {
            for (int[] row : rows) {
                SumsOver s = spans(1, 3, 1, 3);
                s.name(input, 31, true);
                due(row[0] + " .. " + row[1], s.span(input, row[0], row[1]), true);
                due("RUNS", s.count(1), 3 * (row[1] - row[0] + 1));
                dueAt(s, input, row[0], row[0]);
                dueAt(s, input, row[1], row[1]);
                dueAt(s, input, row[0] - 1, NO_VALUE);
                dueAt(s, input, row[1] + 1, NO_VALUE);
                dueEnds("by SPANS", s, input, row[0], row[1]);
                dueEnds("the other one stays", s, 1 - input, 1, 3);
                due("again", s.span(input, row[0], row[1]), true);
            }
        }
        SumsOver s = program();
        due("OVER", s.over(1), 23);
        s.span(0, -3, -3);
        due("OVER by the new SPAN", s.over(1), 2);
        due("NEED by the new SPAN", s.need(4), 5);
        s.span(0, -1, -1);
        due("NEED by another", s.need(4), 3);
    }

    private void dueAt(SumsOver s, int input, int value, int due) {
        int x = input == 0 ? value : 2;
        int y = input == 0 ? 2 : value;
        due("at " + x + ", " + y, s.run(x, y, input), due);
    }

    private void promise3NoInput() {
        for (int input : new int[] {LOWEST, -1, 2, 3, 5, 6, HIGHEST}) {
            refusedInAll("span(" + input + ", 1, 2)", s -> s.span(input, 1, 2));
        }
    }

    private void promise3TooFar() {
        int[][] rows = {{-100001, -100001}, {-100001, -100000}, {-100001, -99970}, {100001, 100001}, {100000, 100001},
            {99970, 100001}, {LOWEST, LOWEST}, {LOWEST, LOWEST + 31}, {HIGHEST, HIGHEST}, {HIGHEST - 31, HIGHEST},
            {LOWEST, 0}, {0, HIGHEST}, {LOWEST, HIGHEST}, {HIGHEST, LOWEST}};
        refuseSpans(rows);
    }

    private void promise3ToBelowFrom() {
        refuseSpans(new int[][] {{1, 0}, {0, -1}, {-5, -6}, {31, 0}, {100000, 99999}, {100000, -100000}});
    }

    private void promise3TooLong() {
        refuseSpans(new int[][] {{0, 32}, {-16, 16}, {-32, 0}, {99968, 100000}, {-100000, -99968}, {-100000, 100000}});
    }

    private void refuseSpans(int[][] rows) {
        for (int[] row : rows) {
            refusedInAll("span(0, " + row[0] + ", " + row[1] + ")", s -> s.span(0, row[0], row[1]));
            refusedInAll("span(1, " + row[0] + ", " + row[1] + ")", s -> s.span(1, row[0], row[1]));
        }
    }

    // ---- 4

    private void promise4Number() {
        SumsOver s = new SumsOver();
        int[][] rows = {{SET, 0, 0, 0}, {COPY, 5, 5, 0}, {ADD, 5, 0, 5}, {LESS_BY, 0, 5, 5}, {TIMES, 5, 5, 5},
            {SHIFT, 5, 5, 12}, {MIN, 5, 5, 5}, {BELOW, 5, 5, 5}, {LOOP, 0, 0, 12}, {END, 0, 0, 0}};
        for (int i = 0; i < 20; i++) {
            int[] row = rows[i % 10];
            due("KIND " + row[0], s.step(row[0], row[1], row[2], row[3]), i);
            due("STEPS", s.count(0), i + 1);
            due("it isn't MEANT", s.mean(i, false), false);
        }
        SumsOver changed = spans(0, 9, 0, 0);
        changed.name(2, 4, true);
        changed.step(COPY, 2, 0, 0);
        due("RUNS over with one STEP", changed.count(2), 2);
        due("NEED with one STEP", changed.need(2), 5);
        changed.step(SHIFT, 2, 0, 1);
        due("RUNS over with two STEPS", changed.count(2), 6);
        due("NEED with two STEPS", changed.need(2), 6);
        due("JUDGED, the second STEP", changed.judge(1), 2);
    }

    private void refuseStep(int kind, int target, int a, int b) {
        String what = "step(" + kind + ", " + target + ", " + a + ", " + b + ")";
        refusedInAll(what, s -> s.step(kind, target, a, b), NONE);
    }

    private void promise4NoKind() {
        for (int kind : new int[] {LOWEST, -10, -1, 10, 11, 24, HIGHEST}) {
            refuseStep(kind, 0, 0, 1);
        }
    }

    private void promise4NoTarget() {
        for (int kind = SET; kind <= BELOW; kind++) {
            for (int n : NO_NAMES) {
                refuseStep(kind, n, 0, 0);
            }
        }
    }

    private void promise4NoA() {
        for (int kind = COPY; kind <= BELOW; kind++) {
            for (int n : NO_NAMES) {
                refuseStep(kind, 0, n, 0);
            }
        }
    }

    private void promise4NoB() {
        for (int kind : new int[] {ADD, LESS_BY, TIMES, MIN, BELOW}) {
            for (int n : NO_NAMES) {
                refuseStep(kind, 0, 0, n);
            }
        }
    }

    private void promise4Set() {
        SumsOver s = new SumsOver();
        due("100000", s.step(SET, 2, 0, 100000), 0);
        due("-100000", s.step(SET, 2, 0, -100000), 1);
        for (int b : new int[] {LOWEST, -100001, 100001, HIGHEST}) {
            refuseStep(SET, 2, 0, b);
        }
    }

    private void promise4ShiftAndLoop() {
        SumsOver s = new SumsOver();
        due("SHIFT by 0", s.step(SHIFT, 2, 0, 0), 0);
        due("SHIFT by 12", s.step(SHIFT, 2, 0, 12), 1);
        due("LOOP of 1", s.step(LOOP, 2, 0, 1), 2);
        s.step(END, 0, 0, 0);
        due("LOOP of 12", s.step(LOOP, 2, 0, 12), 4);
        for (int b : new int[] {LOWEST, -1, 13, 32, 64, HIGHEST}) {
            refuseStep(SHIFT, 2, 0, b);
        }
        for (int b : new int[] {LOWEST, -1, 0, 13, HIGHEST}) {
            refuseStep(LOOP, 2, 0, b);
        }
    }

    private void promise4LoopOrEnd() {
        refused("END at first", SumsOver::new, s -> s.step(END, 0, 0, 0), NONE);
        refused("END behind an END", Edges::program, s -> s.step(END, 0, 0, 0), NONE);
        refused("LOOP in a LOOP", Edges::openLoop, s -> s.step(LOOP, 0, 0, 1), NONE);
        refused("LOOP at once in a LOOP", EdgesOfPromises1To6Test::justLoop, s -> s.step(LOOP, 0, 0, 1), NONE);
        refused("END when the LOOP is gone", EdgesOfPromises1To6Test::loopGone, s -> s.step(END, 0, 0, 0), NONE);
        refused("LOOP when the END is gone", EdgesOfPromises1To6Test::endGone, s -> s.step(LOOP, 0, 0, 1), NONE);
        due("END at once behind a LOOP", justLoop().step(END, 0, 0, 0), 1);
        due("LOOP when the LOOP is gone", loopGone().step(LOOP, 0, 0, 1), 0);
        due("END when the END is gone", endGone().step(END, 0, 0, 0), 1);
        SumsOver s = program();
        due("a LOOP behind an END", s.step(LOOP, 0, 0, 1), 10);
        due("its END", s.step(END, 0, 0, 0), 11);
        due("a third LOOP", s.step(LOOP, 0, 0, 1), 12);
    }

    private static SumsOver justLoop() {
        SumsOver s = new SumsOver();
        s.step(LOOP, 0, 0, 3);
        return s;
    }

    private static SumsOver loopGone() {
        SumsOver s = justLoop();
        s.back();
        return s;
    }

    private static SumsOver endGone() {
        SumsOver s = justLoop();
        s.step(END, 0, 0, 0);
        s.back();
        return s;
    }

    private void promise4TwentyFour() {
        for (int kind = SET; kind <= END; kind++) {
            int k = kind;
            refused("KIND " + k + " as the 25th", Edges::full, s -> s.step(k, 2, 0, 1), NONE);
        }
        refused("LOOP as the 25th", EdgesOfPromises1To6Test::fullWithoutLoop, s -> s.step(LOOP, 0, 0, 1), NONE);
        SumsOver s = full();
        due("24", s.count(0), 24);
        s.back();
        due("the 24th again", s.step(END, 0, 0, 0), 23);
        due("the 25th again", s.step(SET, 2, 0, 1), NONE);
    }

    private static SumsOver fullWithoutLoop() {
        SumsOver s = new SumsOver();
        for (int step = 0; step < 24; step++) {
            s.step(SET, 2, 0, step);
        }
        return s;
    }

    private void promise4DoesNotMatter() {
        for (int any : ANY) {
            SumsOver odd = toldWith(any);
            due("all came with " + any, odd.count(0), 16);
            new Answers(odd).dueAs(check, "what isn't needed is " + any, new Answers(toldWith(0)));
        }
    }

    private static SumsOver toldWith(int any) {
        SumsOver s = program();
        s.step(SET, 3, any, 77);
        s.step(COPY, 4, 0, any);
        s.step(LOOP, any, any, 3);
        s.step(ADD, 2, 2, 0);
        s.step(END, any, any, any);
        s.step(ADD, 5, 3, 4);
        return s;
    }

    // ---- 5

    private void promise5Goes() {
        SumsOver s = full();
        for (int left = 23; left >= 0; left--) {
            due("back", s.back(), true);
            due("STEPS left", s.count(0), left);
            due("it can't be asked", s.judge(left), NONE);
            due("it can't be MEANT", s.mean(left, true), false);
        }
        SumsOver behind = program();
        behind.step(SHIFT, 4, 0, 3);
        behind.step(SET, 0, 0, 1);
        due("with both", behind.over(10), 18);
        behind.back();
        behind.back();
        new Answers(behind).dueAs(check, "as before both came", new Answers(program()));
        SumsOver loops = openLoop();
        loops.step(END, 0, 0, 0);
        loops.step(ADD, 5, 5, 0);
        loops.back();
        loops.back();
        new Answers(loops).dueAs(check, "the LOOP is open again", new Answers(openLoop()));
    }

    private void promise5Mark() {
        SumsOver s = program();
        due("9 isn't MEANT", s.mean(9, true), true);
        due("MEANT", s.count(3), 3);
        s.back();
        due("its mark is gone", s.count(3), 2);
        due("the number of the next", s.step(SET, 2, 0, 9), 9);
        due("the next isn't MEANT", s.mean(9, false), false);
        due("it is listed", s.listed(0), 9);
        s.back();
        s.back();
        due("the mark of 8 is gone", s.count(3), 1);
        due("the mark of 1 stays", s.mean(1, true), false);
    }

    private void promise5None() {
        refused("at first", SumsOver::new, s -> s.back() ? 1 : 0, 0);
        refused("when all are gone", EdgesOfPromises1To6Test::loopGone, s -> s.back() ? 1 : 0, 0);
        SumsOver s = new SumsOver();
        s.back();
        due("the next is STEP 0", s.step(SET, 2, 0, 1), 0);
    }

    // ---- 6

    private void promise6True() {
        SumsOver s = new SumsOver();
        s.name(2, 4, true);
        s.step(SET, 2, 0, 9);
        for (int mode : new int[] {0, 1, 1, 0, 0, 1}) {
            due("mode(" + mode + ")", s.mode(mode), true);
            due("is it", s.count(4), mode);
            due("a value", s.run(0, 0, 2), mode == 0 ? -7 : 7);
            dueEnds("by SPANS", s, 2, mode == 0 ? -8 : 7, 7);
            due("OVER", s.over(0), 1);
        }
        SumsOver t = program();
        due("OVER by MODE 0", t.over(3), 9);
        t.step(ADD, 4, 4, 4);
        due("JUDGED by MODE 0", t.judge(10), 2);
        due("OVER by MODE 0, too", t.over(10), 12);
        t.mode(1);
        due("OVER by MODE 1", t.over(10), 15);
    }

    private void promise6False() {
        for (int mode : new int[] {LOWEST, -2, -1, 2, 3, HIGHEST}) {
            refusedInAll("mode(" + mode + ")", s -> s.mode(mode));
        }
    }
}
