/** "Terms" from "==== 2." on, sentence by sentence: SPANS, JUDGED, TRUE and NEED, MENDED and the LIST; 512 calls. */
public final class EdgesOfTerms2And3Test extends Edges {
    public static void main(String[] args) {
        EdgesOfTerms2And3Test test = new EdgesOfTerms2And3Test();
        test.bySpans();
        test.judged();
        test.needs();
        test.lists();
        test.calls();
        test.check.end();
    }

    private void bySpans() {
        check.of("Terms, SPANS");
        check.holds("at first those of an INPUT the ends of its SPAN", this::spanOfInput);
        check.holds("if these are not both in its RANGE: by MODE 0 those of the RANGE", this::inputSpanByMode0);
        check.holds("by MODE 1 each the nearer one in it", this::inputSpanByMode1);
        check.holds("others 0; of SET b", this::spanOfSet);
        check.holds("of COPY, SHIFT and MIN what follows of the ends", this::spanOfCopyShiftMin);
        check.holds("of ADD the sums of the ends", this::spanOfAdd);
        check.holds("the least less the greatest, and the greatest less the least", this::spanOfLessBy);
        check.holds("the least and the greatest of the four products of ends", this::spanOfTimes);
        check.holds("of BELOW 0 and 1, but just 1 (0)", this::spanOfBelow);
        check.holds("if both NAMES are of one sign", this::spanOfBelowOfTwoSigns);
        check.holds("If these ends are not both in the TARGET's RANGE, the STEP COULD go over", this::could);
        check.holds("the ends are, by MODE 0, those of the RANGE", this::stepSpanByMode0);
        check.holds("by MODE 1 each the nearer one in it.", this::stepSpanByMode1);
        check.holds("LOOPS are gone through as often as they are done", this::spanOfLoop);
    }

    private void judged() {
        check.of("Terms, JUDGED");
        check.holds("0 it can't go over by SPANS", this::judged0);
        check.holds("1 it COULD, but does in no RUN", this::judged1);
        check.holds("2 it does in some", this::judged2);
        check.holds("3 in all RUNS", this::judged3);
        check.holds("OVER is in how many RUNS", this::overCountsRuns);
    }

    private void needs() {
        check.of("Terms, TRUE and NEED");
        check.holds("no STEP goes over", this::trueHasNoBounds);
        check.holds("BELOW by values themselves", this::trueBelow);
        check.holds("INPUTS as they are", this::trueInputs);
        check.holds("the least WIDTH from 2 to 31 by which, with its sign as it is", this::leastWidth);
        check.holds("all TRUE values that it is ever given in any RUN", this::everGiven);
        check.holds("(INPUTS, too; 0)", this::inputsAndZero);
        check.holds("NONE if there is none", this::noWidth);
        check.holds("above 2 to the power of 40", this::above40);
        check.holds("or below minus that", this::belowMinus40);
        check.holds("if any TRUE value in any RUN", this::anyTrueValue);
    }

    private void lists() {
        check.of("Terms, MENDED and the LIST");
        check.holds("NAMES whose NEED is above their WIDTH get it", this::mended);
        check.holds("PRICE: the bits more of all these", this::priced);
        check.holds("STEPS that are JUDGED 2 or 3 and aren't MEANT", this::listHas);
        check.holds("by OVER, the most first, of like ones by numbers", this::listOrder);
    }

    private void calls() {
        check.of("Terms");
        check.holds("What is refused changes nothing.", this::refusedInARow);
        check.of("What it is");
        check.holds("An object is used for at most 512 calls after it has been made", this::call512);
    }

    // ---- SPANS

    private void spanOfInput() {
        SumsOver s = spans(-3, 9, 2, 7);
        dueEnds("x", s, 0, -3, 9);
        dueEnds("y", s, 1, 2, 7);
        s.name(0, 5, true);
        s.name(1, 3, false);
        dueEnds("x in 5 bits", s, 0, -3, 9);
        dueEnds("y just fits", s, 1, 2, 7);
        s.span(0, -16, 15);
        dueEnds("x is the whole RANGE", s, 0, -16, 15);
    }

    private void inputSpanByMode0() {
        SumsOver s = spans(-9, 5, 0, 15);
        s.name(0, 4, true);
        dueEnds("the least isn't", s, 0, -8, 7);
        s.span(0, -8, 8);
        dueEnds("the greatest isn't", s, 0, -8, 7);
        s.span(0, 8, 9);
        dueEnds("neither is, above", s, 0, -8, 7);
        s.span(0, -10, -9);
        dueEnds("neither is, below", s, 0, -8, 7);
        s.name(1, 4, false);
        dueEnds("both are", s, 1, 0, 15);
        s.span(1, -1, 3);
        dueEnds("not SIGNED, the least isn't", s, 1, 0, 15);
        s.span(1, 16, 16);
        dueEnds("not SIGNED, one number", s, 1, 0, 15);
    }

    private void inputSpanByMode1() {
        SumsOver s = spans(-9, 5, -1, 3);
        s.mode(1);
        s.name(0, 4, true);
        s.name(1, 4, false);
        dueEnds("the least isn't in it", s, 0, -8, 5);
        dueEnds("not SIGNED, the least isn't", s, 1, 0, 3);
        s.span(0, -4, 8);
        dueEnds("the greatest isn't in it", s, 0, -4, 7);
        s.span(0, 8, 9);
        dueEnds("neither is, above", s, 0, 7, 7);
        s.span(0, -10, -9);
        dueEnds("neither is, below", s, 0, -8, -8);
        s.span(0, -9, 8);
        dueEnds("neither is, both sides", s, 0, -8, 7);
        s.span(1, 14, 17);
        dueEnds("not SIGNED, the greatest isn't", s, 1, 14, 15);
    }

    private void spanOfSet() {
        SumsOver s = spans(-9, 5, -1, 3);
        for (int n = 2; n <= 5; n++) {
            dueEnds("at first", s, n, 0, 0);
        }
        s.step(SET, 0, 0, 32767);
        dueEnds("an INPUT", s, 0, 32767, 32767);
        s.step(SET, 2, 0, -32768);
        dueEnds("the least of 16 bits", s, 2, -32768, -32768);
        due("neither COULD go over", s.judge(0) + s.judge(1), 0);
    }

    private void spanOfCopyShiftMin() {
        SumsOver s = spans(-3, 9, 2, 7);
        s.step(COPY, 2, 0, 0);
        s.step(SHIFT, 3, 0, 0);
        s.step(SHIFT, 4, 0, 11);
        s.step(MIN, 5, 0, 1);
        dueEnds("COPY", s, 2, -3, 9);
        dueEnds("SHIFT by 0", s, 3, -3, 9);
        dueEnds("SHIFT by 11", s, 4, -3 * 2048, 9 * 2048);
        dueEnds("MIN", s, 5, -3, 7);
        s.step(MIN, 5, 1, 0);
        dueEnds("MIN the other way", s, 5, -3, 7);
        s.span(0, 7, 9);
        dueEnds("MIN of SPANS that touch", s, 5, 2, 7);
        s.span(0, 1, 2);
        dueEnds("MIN of the lower one", s, 5, 1, 2);
        s.step(MIN, 5, 0, 0);
        dueEnds("MIN of itself", s, 5, 1, 2);
    }

    private void spanOfAdd() {
        SumsOver s = spans(-3, 9, 2, 7);
        s.step(ADD, 2, 0, 1);
        dueEnds("of two", s, 2, -1, 16);
        s.step(ADD, 2, 0, 0);
        dueEnds("of one with itself", s, 2, -6, 18);
    }

    private void spanOfLessBy() {
        SumsOver s = spans(-3, 9, 2, 7);
        s.step(LESS_BY, 2, 0, 1);
        dueEnds("of two", s, 2, -10, 7);
        s.step(LESS_BY, 2, 1, 0);
        dueEnds("the other way", s, 2, -7, 10);
        s.step(LESS_BY, 2, 0, 0);
        dueEnds("of one with itself", s, 2, -12, 12);
    }

    private void spanOfTimes() {
        int[][] rows = {{2, 3, 4, 5, 8, 15}, {-3, -2, 4, 5, -15, -8}, {2, 3, -5, -4, -15, -8}, {-3, -2, -5, -4, 8, 15},
            {-3, 2, 4, 5, -15, 10}, {-3, 2, -5, -4, -10, 15}, {2, 3, -5, 4, -15, 12}, {-3, -2, -5, 4, -12, 15},
            {-3, 2, -5, 4, -12, 15}, {-2, 3, -5, 4, -15, 12}, {0, 0, -5, 4, 0, 0}};
        for (int[] row : rows) {
            SumsOver s = spans(row[0], row[1], row[2], row[3]);
            s.step(TIMES, 2, 0, 1);
            dueEnds(row[0] + " .. " + row[1] + " times " + row[2] + " .. " + row[3], s, 2, row[4], row[5]);
        }
        SumsOver itself = spans(-3, 2, 0, 0);
        itself.step(TIMES, 2, 0, 0);
        dueEnds("of one with itself", itself, 2, -6, 9);
    }

    private void spanOfBelow() {
        int[][] rows = {{1, 4, 5, 9, 1, 1}, {1, 5, 5, 9, 0, 1}, {5, 9, 1, 5, 0, 0}, {4, 9, 1, 5, 0, 1},
            {5, 5, 5, 5, 0, 0}, {4, 4, 5, 5, 1, 1}, {6, 6, 5, 5, 0, 0}, {-9, 9, -9, 9, 0, 1}};
        for (int[] row : rows) {
            SumsOver s = spans(row[0], row[1], row[2], row[3]);
            s.step(BELOW, 2, 0, 1);
            dueEnds(row[0] + " .. " + row[1] + " below " + row[2] + " .. " + row[3], s, 2, row[4], row[5]);
        }
        SumsOver itself = spans(1, 2, 0, 0);
        itself.step(BELOW, 2, 0, 0);
        dueEnds("below itself", itself, 2, 0, 1);
        itself.span(0, 1, 1);
        dueEnds("below itself, one number", itself, 2, 0, 0);
    }

    private void spanOfBelowOfTwoSigns() {
        SumsOver s = spans(1, 4, 5, 9);
        s.step(BELOW, 2, 0, 1);
        s.step(BELOW, 3, 1, 0);
        s.name(0, 16, false);
        dueEnds("a isn't SIGNED", s, 2, 0, 1);
        dueEnds("b isn't SIGNED", s, 3, 0, 1);
        s.name(1, 16, false);
        dueEnds("neither is", s, 2, 1, 1);
        dueEnds("neither is, the other way", s, 3, 0, 0);
    }

    private void could() {
        SumsOver s = spans(-4, 3, 0, 0);
        s.name(2, 3, true);
        s.step(COPY, 2, 0, 0);
        due("both are in its RANGE", s.judge(0), 0);
        s.span(0, -4, 4);
        due("the greatest isn't", s.judge(0), 2);
        s.span(0, -5, 3);
        due("the least isn't", s.judge(0), 2);
        s.span(0, 4, 5);
        due("neither is", s.judge(0), 3);
        s.step(LESS_BY, 3, 0, 0);
        s.step(SHIFT, 2, 3, 2);
        due("just by SPANS, the greatest", s.judge(2), 1);
        s.name(4, 2, false);
        s.step(COPY, 4, 3, 0);
        due("just by SPANS, the least", s.judge(3), 1);
    }

    private void stepSpanByMode0() {
        SumsOver s = spans(-4, 4, 0, 0);
        s.name(2, 3, true);
        s.name(3, 3, false);
        s.step(COPY, 2, 0, 0);
        s.step(COPY, 3, 0, 0);
        dueEnds("SIGNED", s, 2, -4, 3);
        dueEnds("not SIGNED", s, 3, 0, 7);
        s.step(SET, 2, 0, 4);
        s.step(SET, 3, 0, -1);
        dueEnds("one value, SIGNED", s, 2, -4, 3);
        dueEnds("one value, not SIGNED", s, 3, 0, 7);
        s.name(2, 31, false);
        s.step(SET, 2, 0, -1);
        dueEnds("31 bits", s, 2, 0, HIGHEST);
        s.name(2, 31, true);
        s.step(SHIFT, 2, 0, 12);
        s.step(SHIFT, 2, 2, 12);
        s.step(SHIFT, 2, 2, 12);
        dueEnds("31 bits, SIGNED", s, 2, -power(30), power(30) - 1);
    }

    private void stepSpanByMode1() {
        SumsOver s = spans(-4, 4, -5, 2);
        s.mode(1);
        s.name(2, 3, true);
        s.name(3, 3, false);
        s.step(COPY, 2, 0, 0);
        s.step(COPY, 3, 0, 0);
        dueEnds("the greatest isn't", s, 2, -4, 3);
        dueEnds("the least isn't", s, 3, 0, 4);
        s.step(COPY, 2, 1, 0);
        dueEnds("the least isn't, SIGNED", s, 2, -4, 2);
        s.step(SET, 2, 0, 4);
        s.step(SET, 3, 0, -1);
        dueEnds("above", s, 2, 3, 3);
        dueEnds("below", s, 3, 0, 0);
        s.step(SHIFT, 2, 0, 12);
        dueEnds("both sides", s, 2, -4, 3);
        s.step(SET, 2, 0, -100000);
        dueEnds("far below", s, 2, -4, -4);
    }

    private void spanOfLoop() {
        SumsOver s = spans(1, 2, 0, 0);
        s.name(2, 5, true);
        s.step(LOOP, 0, 0, 7);
        s.step(ADD, 2, 2, 0);
        dueEnds("7 times", s, 2, 7, 14);
        due("7 times", s.judge(1), 0);
        s.back();
        s.back();
        s.step(LOOP, 0, 0, 8);
        s.step(ADD, 2, 2, 0);
        dueEnds("8 times", s, 2, -16, 15);
        due("8 times", s.judge(1), 2);
        s.mode(1);
        dueEnds("8 times by MODE 1", s, 2, 8, 15);
        s.back();
        s.back();
        s.step(LOOP, 0, 0, 12);
        s.step(ADD, 2, 2, 0);
        s.step(END, 0, 0, 0);
        s.step(ADD, 2, 2, 0);
        dueEnds("12 times and once", s, 2, 13, 15);
    }

    // ---- JUDGED

    private void judged0() {
        SumsOver s = spans(-8, 7, 0, 0);
        s.name(2, 4, true);
        s.step(COPY, 2, 0, 0);
        s.step(LOOP, 0, 0, 12);
        s.step(SET, 2, 0, 7);
        s.step(END, 0, 0, 0);
        for (int step = 0; step < 4; step++) {
            due("STEP " + step, s.judge(step), 0);
        }
    }

    private void judged1() {
        SumsOver s = spans(0, 8, 0, 0);
        s.name(2, 4, true);
        s.step(LESS_BY, 2, 0, 0);
        due("x less x COULD", s.judge(0), 1);
        due("does in no RUN", s.over(0), 0);
        s.span(0, 0, 7);
        due("it can't", s.judge(0), 0);
        s.step(MIN, 3, 0, 1);
        s.step(LESS_BY, 3, 0, 3);
        s.name(4, 3, true);
        s.span(0, 0, 3);
        s.span(1, 0, 3);
        s.step(TIMES, 4, 3, 1);
        due("x less the lesser one, times y", s.judge(3), 1);
    }

    private void judged2() {
        SumsOver s = spans(0, 31, 0, 31);
        s.name(2, 5, false);
        s.step(LESS_BY, 2, 0, 1);
        due("some", s.judge(0), 2);
        due("how many", s.over(0), 31 * 32 / 2);
        s.step(TIMES, 3, 0, 1);
        s.name(3, 11, true);
        due("none", s.judge(1), 0);
        s.name(4, 6, false);
        s.step(ADD, 4, 0, 1);
        due("62 fits", s.judge(2), 0);
        s.name(5, 10, false);
        s.step(SET, 5, 0, 63);
        s.step(ADD, 5, 5, 3);
        due("961 and 63 are one RUN's", s.judge(4), 2);
        due("one RUN", s.over(4), 1);
        s.back();
        s.back();
        s.name(5, 2, false);
        s.step(ADD, 5, 0, 1);
        s.span(0, 3, 4);
        s.span(1, 0, 1);
        due("all but one", s.judge(3), 2);
        due("3 of 4", s.over(3), 3);
    }

    private void judged3() {
        SumsOver s = spans(4, 5, 0, 31);
        s.name(2, 2, false);
        s.step(ADD, 2, 0, 1);
        due("all", s.judge(0), 3);
        due("all 64", s.over(0), 64);
        s.span(0, 3, 5);
        due("all but one", s.judge(0), 2);
        due("all but one of 96", s.over(0), 95);
        s.span(0, 4, 4);
        s.span(1, 0, 0);
        due("the one RUN", s.judge(0), 3);
        SumsOver two = spans(0, 1, 0, 0);
        two.name(2, 2, true);
        two.step(LOOP, 0, 0, 2);
        two.step(SHIFT, 2, 0, 1);
        two.step(SET, 3, 0, 1);
        two.step(LESS_BY, 0, 3, 0);
        due("in one RUN at the first time, in the other at the second", two.judge(1), 3);
    }

    private void overCountsRuns() {
        SumsOver s = spans(0, 3, 0, 1);
        s.name(2, 2, false);
        s.step(LOOP, 0, 0, 12);
        s.step(SHIFT, 2, 0, 1);
        s.step(END, 0, 0, 0);
        due("12 times are one RUN", s.over(1), 4);
        due("LOOP", s.over(0), 0);
        due("END", s.over(2), 0);
    }

    // ---- TRUE and NEED

    private void trueHasNoBounds() {
        SumsOver s = spans(0, 9, 0, 0);
        for (int mode = 0; mode <= 1; mode++) {
            s.mode(mode);
            for (int n = 0; n < 6; n++) {
                s.name(n, 2, true);
            }
            s.step(SHIFT, 2, 0, 3);
            s.step(COPY, 3, 2, 0);
            s.step(LESS_BY, 4, 5, 3);
            due("72", s.need(2), 8);
            due("72 goes on", s.need(3), 8);
            due("-72", s.need(4), 8);
            due("9", s.need(0), 5);
        }
    }

    private void trueBelow() {
        SumsOver s = oneRun(-1, 1);
        s.name(1, 16, false);
        s.step(BELOW, 2, 0, 1);
        s.step(SHIFT, 2, 2, 9);
        due("-1 is below 1, TRUE", s.need(2), 11);
        due("not by rests", s.run(-1, 1, 2), 0);
        s.back();
        s.back();
        s.step(BELOW, 2, 1, 0);
        s.step(SHIFT, 2, 2, 9);
        due("1 isn't below -1, TRUE", s.need(2), 2);
        due("it is by rests", s.run(-1, 1, 2), 512);
    }

    private void trueInputs() {
        SumsOver s = oneRun(100000, -100000);
        s.name(0, 2, true);
        s.name(1, 2, true);
        s.step(COPY, 2, 0, 0);
        s.step(COPY, 3, 1, 0);
        for (int mode = 0; mode <= 1; mode++) {
            s.mode(mode);
            for (int n = 0; n <= 3; n++) {
                due("NAME " + n, s.need(n), 18);
            }
        }
    }

    private void leastWidth() {
        for (int width = 2; width <= 31; width++) {
            SumsOver s = new SumsOver();
            powers(s, width - 1);
            s.name(2, 2, true);
            dueNeed("greatest SIGNED of " + width, s, LESS_BY, 4, 3, width);
            dueNeed("one above SIGNED " + width, s, COPY, 4, 0, width == 31 ? NONE : width + 1);
            dueNeed("least SIGNED of " + width, s, COPY, 5, 0, width);
            dueNeed("one below SIGNED " + width, s, LESS_BY, 5, 3, width == 31 ? NONE : width + 1);
            s.name(2, 31, false);
            s.step(LESS_BY, 0, 4, 3);
            dueNeed("greatest of " + width, s, ADD, 4, 0, width);
            dueNeed("one above " + width, s, ADD, 4, 4, width == 31 ? NONE : width + 1);
            dueNeed("one below 0", s, LESS_BY, 1, 3, NONE);
        }
    }

    private void dueNeed(String what, SumsOver s, int kind, int a, int b, int need) {
        s.step(kind, 2, a, b);
        due(what, s.need(2), need);
        s.back();
    }

    private void everGiven() {
        SumsOver s = spans(0, 3, 0, 3);
        s.step(TIMES, 2, 0, 1);
        s.step(SET, 2, 0, 0);
        due("9 of the last RUN, then 0", s.need(2), 5);
        s.step(SET, 2, 0, -100000);
        s.step(SET, 2, 0, 0);
        due("-100000, then 0", s.need(2), 18);
        SumsOver loop = oneRun(1, 0);
        loop.step(LOOP, 0, 0, 12);
        loop.step(LESS_BY, 2, 0, 2);
        loop.step(SHIFT, 2, 2, 1);
        loop.step(LESS_BY, 2, 2, 2);
        loop.step(ADD, 3, 3, 0);
        due("within a LOOP, gone at its end", loop.need(2), 3);
        due("12 times", loop.need(3), 5);
        SumsOver first = spans(-31, 0, 0, 0);
        first.step(COPY, 2, 0, 0);
        due("of the first RUN alone", first.need(2), 6);
        first.span(0, 0, 31);
        due("of the last RUN alone", first.need(2), 6);
    }

    private void inputsAndZero() {
        SumsOver s = spans(-5, -5, 5, 9);
        due("x", s.need(0), 4);
        due("y", s.need(1), 5);
        s.step(SET, 0, 0, 1);
        s.step(SET, 1, 0, 1);
        due("x that is set later", s.need(0), 4);
        due("y that is set later", s.need(1), 5);
        for (int n = 2; n <= 5; n++) {
            due("never given but 0", s.need(n), 2);
            s.name(n, 9, false);
            due("never given but 0, not SIGNED", s.need(n), 2);
        }
    }

    private void noWidth() {
        SumsOver s = new SumsOver();
        s.name(2, 31, false);
        s.step(SET, 2, 0, -1);
        due("-1, not SIGNED", s.need(2), NONE);
        due("another NAME", s.need(3), 2);
        s.name(2, 31, true);
        due("-1, SIGNED", s.need(2), 2);
        s.back();
        powers(s, 30);
        s.step(COPY, 2, 4, 0);
        due("2 to 30, SIGNED", s.need(2), NONE);
        due("2 to 30, not SIGNED", s.need(4), 31);
        due("minus 2 to 30", s.need(5), 31);
        s.span(0, -1, -1);
        s.name(0, 16, false);
        due("an INPUT of -1, not SIGNED", s.need(0), NONE);
    }

    /** NAME 2 gets 2 to the power of 40, or minus that; NAME 3 1. */
    private static SumsOver farthest(int sign) {
        SumsOver s = new SumsOver();
        s.step(SET, 3, 0, 1);
        s.step(SET, 2, 0, sign * 16);
        s.step(LOOP, 0, 0, 3);
        s.step(SHIFT, 2, 2, 12);
        s.step(END, 0, 0, 0);
        return s;
    }

    private void above40() {
        SumsOver s = farthest(1);
        due("2 to 40 fits in no WIDTH", s.need(2), NONE);
        due("2 to 40 isn't above it", s.need(3), 2);
        dueFar("by ADD", s, ADD, 2, 3, NONE);
        dueFar("by ADD, less", s, ADD, 2, 4, 2);
        dueFar("by SHIFT 0", s, SHIFT, 2, 0, 2);
        dueFar("by SHIFT 1", s, SHIFT, 2, 1, NONE);
        dueFar("by SHIFT 12", s, SHIFT, 2, 12, NONE);
        dueFar("by TIMES 1", s, TIMES, 2, 3, 2);
        dueFar("by TIMES 0", s, TIMES, 2, 4, 2);
        dueFar("0 TIMES it", s, TIMES, 4, 2, 2);
        dueFar("2 to 80", s, TIMES, 2, 2, NONE);
        dueFar("2 to 41 by ADD", s, ADD, 2, 2, NONE);
        dueFar("0 less it is minus 2 to 40", s, LESS_BY, 4, 2, 2);
        dueFar("itself less itself", s, LESS_BY, 2, 2, 2);
        dueFar("COPY", s, COPY, 2, 0, 2);
        dueFar("MIN", s, MIN, 2, 2, 2);
        dueFar("BELOW", s, BELOW, 3, 2, 2);
    }

    private void belowMinus40() {
        SumsOver s = farthest(-1);
        due("minus 2 to 40 fits in no WIDTH", s.need(2), NONE);
        due("minus 2 to 40 isn't below it", s.need(3), 2);
        dueFar("by LESS BY", s, LESS_BY, 2, 3, NONE);
        dueFar("by LESS BY 0", s, LESS_BY, 2, 4, 2);
        dueFar("by ADD, more", s, ADD, 2, 3, 2);
        dueFar("by SHIFT 1", s, SHIFT, 2, 1, NONE);
        dueFar("by SHIFT 12", s, SHIFT, 2, 12, NONE);
        dueFar("by TIMES 1", s, TIMES, 2, 3, 2);
        dueFar("2 to 80", s, TIMES, 2, 2, NONE);
        dueFar("minus 2 to 41 by ADD", s, ADD, 2, 2, NONE);
        dueFar("0 less it is 2 to 40", s, LESS_BY, 4, 2, 2);
        dueFar("1 less it is one above", s, LESS_BY, 3, 2, NONE);
    }

    /** Asked is NAME 3, which is 1 throughout: just a value that is too far takes its NEED away. */
    private void dueFar(String what, SumsOver s, int kind, int a, int b, int need) {
        s.step(kind, 5, a, b);
        due(what, s.need(3), need);
        due(what + ", of an INPUT", s.need(0), need);
        s.back();
    }

    private void anyTrueValue() {
        for (int n = 0; n < 6; n++) {
            due("NAME " + n, tooFar().need(n), NONE);
        }
        SumsOver later = farthest(1);
        later.step(ADD, 2, 2, 3);
        later.step(SET, 2, 0, 0);
        due("too far, but set to 0 later", later.need(2), NONE);
        SumsOver first = spans(0, 31, 0, 31);
        first.name(2, 16, true);
        first.step(SHIFT, 2, 0, 12);
        first.step(SHIFT, 2, 2, 12);
        first.step(SHIFT, 2, 2, 11);
        due("31 times 2 to 35", first.need(1), 6);
        first.span(0, 1, 32);
        due("32 times 2 to 35", first.need(1), 6);
        first.span(0, 2, 33);
        due("33 times 2 to 35 is the last RUN's", first.need(1), NONE);
        first.span(0, -33, -2);
        due("-33 times 2 to 35 is the first RUN's", first.need(1), NONE);
        first.span(0, -32, -1);
        due("-32 times 2 to 35", first.need(1), 6);
        SumsOver byY = spans(0, 0, -33, -2);
        byY.step(SHIFT, 2, 1, 12);
        byY.step(SHIFT, 2, 2, 12);
        byY.step(SHIFT, 2, 2, 11);
        due("by y alone", byY.need(0), NONE);
        byY.span(1, -32, -1);
        due("not by y alone", byY.need(0), 2);
    }

    // ---- MENDED and the LIST

    private void mended() {
        SumsOver s = program();
        due("how many", s.mend(), 3);
        int[] widths = {16, 16, 6, 8, 5, 16};
        int[] signs = {1, 1, 1, 0, 1, 1};
        for (int n = 0; n < 6; n++) {
            due("WIDTH of " + n, s.count(10 + n), widths[n]);
            due("SIGNED of " + n, s.count(20 + n), signs[n]);
        }
        due("none goes over now", s.count(2), 0);
        s.name(2, 6, true);
        due("as wide as it needs", s.mend(), 0);
        s.name(2, 5, true);
        due("one bit less", s.mend(), 1);
        due("gets it", s.count(12), 6);
        s.name(2, 7, true);
        due("one bit more", s.mend(), 0);
        due("keeps it", s.count(12), 7);
    }

    private void priced() {
        SumsOver s = program();
        due("2 and 2 and 1", s.price(), 5);
        s.name(2, 31, true);
        due("what is wider takes nothing off", s.price(), 3);
        s.name(2, 2, true);
        due("4 and 2 and 1", s.price(), 7);
        s.name(0, 2, true);
        due("2 of x", s.price(), 9);
    }

    private void listHas() {
        SumsOver s = program();
        int[] judged = {0, 2, 0, 2, 0, 0, 1, 0, 3, 3};
        for (int step = 0; step < judged.length; step++) {
            due("JUDGED, STEP " + step, s.judge(step), judged[step]);
        }
        dueList("1 and 8 are MEANT", s, 9, 3);
        s.mean(8, false);
        dueList("8 isn't", s, 8, 9, 3);
        s.mean(1, false);
        dueList("1 isn't", s, 8, 9, 1, 3);
        for (int step = 0; step < judged.length; step++) {
            s.mean(step, true);
        }
        dueList("all are", s);
    }

    private void dueList(String what, SumsOver s, int... steps) {
        for (int i = 0; i < steps.length; i++) {
            due(what + ", " + i, s.listed(i), steps[i]);
        }
        due(what + ", no more", s.listed(steps.length), NONE);
    }

    private void listOrder() {
        SumsOver s = spans(0, 9, 0, 0);
        s.name(2, 4, false);
        s.name(3, 3, true);
        s.step(SHIFT, 2, 0, 1);
        s.step(SHIFT, 3, 0, 1);
        s.step(COPY, 3, 0, 0);
        s.step(SHIFT, 3, 0, 2);
        s.step(SHIFT, 2, 0, 1);
        s.step(SET, 3, 0, 4);
        s.step(SHIFT, 3, 0, 2);
        int[] overs = {2, 8, 6, 9, 2, 10, 9};
        for (int step = 0; step < overs.length; step++) {
            due("OVER of " + step, s.over(step), overs[step]);
        }
        dueList("the most first", s, 5, 3, 6, 1, 2, 0, 4);
        SumsOver like = new SumsOver();
        like.name(2, 2, true);
        int[] numbers = new int[24];
        for (int step = 0; step < 24; step++) {
            like.step(SET, 2, 0, 2 + step);
            numbers[step] = step;
        }
        dueList("24 like ones", like, numbers);
    }

    // ---- refused calls, and 512 calls

    /** One refused call of each method and ground, all on one object whose answers were learnt before. */
    private void refusedInARow() {
        for (Scene scene : new Scene[] {Edges::tooFar, Edges::belowZero}) {
            SumsOver s = scene.made();
            due("something is learnt", s.judge(9) + s.count(2) + s.need(3), 3 + 24 + NONE);
            dueRefusedTold(s);
            dueRefusedAsked(s);
            new Answers(s).dueAs(check, "all in a row", new Answers(scene.made()));
        }
    }

    private void dueRefusedTold(SumsOver s) {
        int steps = s.count(0);
        due("name, no NAME", s.name(6, 8, false), false);
        due("name, no WIDTH", s.name(2, 32, false), false);
        due("span, no INPUT", s.span(2, 0, 1), false);
        due("span, too far", s.span(0, 100000, 100001), false);
        due("span, to below from", s.span(1, 3, 2), false);
        due("span, too long", s.span(1, 0, 32), false);
        due("step, no KIND", s.step(10, 0, 0, 1), NONE);
        due("step, no TARGET", s.step(SET, 6, 0, 1), NONE);
        due("step, no a", s.step(COPY, 0, 6, 0), NONE);
        due("step, no b", s.step(ADD, 0, 0, 6), NONE);
        due("step, SET too far", s.step(SET, 0, 0, -100001), NONE);
        due("step, SHIFT too far", s.step(SHIFT, 0, 0, 13), NONE);
        due("step, LOOP of none", s.step(LOOP, 0, 0, 0), NONE);
        due("step, END of none", s.step(END, 0, 0, 0), NONE);
        due("mode", s.mode(2), false);
        due("mend", s.mend(), NONE);
        due("mean, no STEP", s.mean(steps, true), false);
        due("mean, so already", s.mean(1, true), false);
    }

    private void dueRefusedAsked(SumsOver s) {
        int steps = s.count(0);
        due("run", s.run(5, 10, 2), NO_VALUE);
        due("first", s.first(-3, 13), NONE);
        due("judge", s.judge(steps), NONE);
        due("over", s.over(steps), NONE);
        due("shown", s.shown(steps), NONE);
        due("turned", s.turned(0), NONE);
        due("ends", s.ends(2, 2), NO_VALUE);
        due("need", s.need(6), NONE);
        due("price", s.price(), NONE);
        due("listed", s.listed(24), NONE);
        due("count", s.count(5), NONE);
    }

    private void call512() {
        SumsOver s = spans(0, 31, 0, 31);
        s.name(2, 10, false);
        int calls = 3;
        while (calls < 480) {
            s.step(TIMES, 2, 0, 1);
            s.over(0);
            s.back();
            calls += 3;
        }
        for (int step = 0; step < 24; step++) {
            due("a STEP", s.step(TIMES, 2, 0, 1), step);
            calls++;
        }
        due("calls", calls, 504);
        due("505: none came in between", s.count(0), 24);
        due("506: RUNS", s.count(1), 1024);
        due("507: the last STEP", s.judge(23), 0);
        due("508: NEED", s.need(2), 10);
        due("509: WIDTH", s.name(2, 9, false), true);
        due("510: OVER", s.over(23), above(511));
        due("511: PRICE", s.price(), 1);
        due("512: the last of the LIST", s.listed(23), 23);
    }

    private static int above(int most) {
        int runs = 0;
        for (int x = 0; x < 32; x++) {
            for (int y = 0; y < 32; y++) {
                if (x * y > most) runs++;
            }
        }
        return runs;
    }
}
