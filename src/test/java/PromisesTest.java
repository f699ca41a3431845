/** Each promise of the document by worked examples: ordinary inputs, the edges it names, wrong inputs. */
public final class PromisesTest {
    private static final int NO_VALUE = Integer.MIN_VALUE;
    private static final int SET = 0;
    private static final int COPY = 1;
    private static final int ADD = 2;
    private static final int LESS_BY = 3;
    private static final int TIMES = 4;
    private static final int SHIFT = 5;
    private static final int MIN = 6;
    private static final int BELOW = 7;
    private static final int LOOP = 8;
    private static final int END = 9;
    private static final int[] OUTSIDE = {Integer.MIN_VALUE, -1, 6, 24, Integer.MAX_VALUE};

    private static final Check CHECK = new Check("PromisesTest");

    public static void main(String[] args) {
        newObject();
        name();
        nameBounds();
        span();
        stepArguments();
        stepLimit();
        stepLoops();
        back();
        mode();
        run();
        runPutsInputs();
        runLoops();
        first();
        judge();
        over();
        shown();
        turned();
        endsOfInputs();
        endsOfKinds();
        endsOfBelow();
        need();
        needFarthest();
        price();
        mend();
        mean();
        listed();
        count();
        refusedChangesNothing();
        CHECK.end();
    }

    private static void due(String what, long got, long want) {
        CHECK.due(what, got, want);
    }

    private static void due(String what, boolean got, boolean want) {
        CHECK.due(what, got, want);
    }

    private static SumsOver with(int x0, int x1, int y0, int y1) {
        SumsOver s = new SumsOver();
        due("with x", s.span(0, x0, x1), true);
        due("with y", s.span(1, y0, y1), true);
        return s;
    }

    private static void dueEnds(String what, SumsOver s, int name, int least, int greatest) {
        due(what + ", least", s.ends(name, 0), least);
        due(what + ", greatest", s.ends(name, 1), greatest);
    }

    private static void newObject() {
        SumsOver s = new SumsOver();
        due("1: NONE", SumsOver.NONE, -1);
        due("1: steps", s.count(0), 0);
        due("1: runs", s.count(1), 1);
        due("1: runs over", s.count(2), 0);
        due("1: meant", s.count(3), 0);
        due("1: mode", s.count(4), 0);
        for (int n = 0; n < 6; n++) {
            due("1: width", s.count(10 + n), 16);
            due("1: signed", s.count(20 + n), 1);
            due("1: value", s.run(0, 0, n), 0);
            dueEnds("1: ends", s, n, 0, 0);
            due("1: need", s.need(n), 2);
        }
        due("1: x of no run", s.run(1, 0, 0), NO_VALUE);
        due("1: y of no run", s.run(0, -1, 0), NO_VALUE);
        due("1: price", s.price(), 0);
        due("1: mend", s.mend(), 0);
        due("1: listed", s.listed(0), -1);
        due("1: back", s.back(), false);
    }

    private static void name() {
        SumsOver s = new SumsOver();
        due("2: least width", s.name(0, 2, false), true);
        due("2: most width", s.name(5, 31, true), true);
        due("2: width told", s.count(10), 2);
        due("2: sign told", s.count(20), 0);
        due("2: width of the last", s.count(15), 31);
        due("2: again the same", s.name(5, 31, true), true);
        due("2: too narrow", s.name(0, 1, true), false);
        due("2: too wide", s.name(0, 32, true), false);
        due("2: no width", s.name(0, Integer.MIN_VALUE, true), false);
        due("2: far too wide", s.name(0, Integer.MAX_VALUE, true), false);
        for (int n : OUTSIDE) {
            due("2: no such name", s.name(n, 8, true), false);
        }
        due("2: refused keeps the width", s.count(10), 2);
        due("2: refused keeps the sign", s.count(20), 0);
    }

    private static void nameBounds() {
        int[][] rows = {{2, 1, -2, 1}, {2, 0, 0, 3}, {8, 1, -128, 127}, {8, 0, 0, 255},
            {31, 1, -1073741824, 1073741823}, {31, 0, 0, 2147483647}};
        for (int[] row : rows) {
            SumsOver s = new SumsOver();
            s.mode(1);
            s.name(2, row[0], row[1] == 1);
            s.name(3, 31, true);
            s.step(SET, 3, 0, 100000);
            s.step(SHIFT, 3, 3, 12);
            s.step(TIMES, 2, 3, 3);
            due("2: greatest of a range", s.run(0, 0, 2), row[3]);
            s.step(SET, 4, 0, -1);
            s.step(TIMES, 2, 2, 4);
            s.step(TIMES, 2, 2, 3);
            due("2: least of a range", s.run(0, 0, 2), row[2]);
        }
    }

    private static void span() {
        SumsOver s = new SumsOver();
        due("3: one number", s.span(0, 7, 7), true);
        due("3: 32 numbers", s.span(1, -100000, -99969), true);
        due("3: runs", s.count(1), 32);
        due("3: 33 numbers", s.span(1, 0, 32), false);
        due("3: the other end", s.span(1, 99969, 100000), true);
        due("3: to is below", s.span(1, 1, 0), false);
        due("3: from is too low", s.span(1, -100001, -100000), false);
        due("3: to is too high", s.span(1, 100000, 100001), false);
        due("3: both too high", s.span(1, 100001, 100001), false);
        due("3: both too low", s.span(1, -100001, -100001), false);
        due("3: ends that wrap", s.span(1, Integer.MIN_VALUE, Integer.MAX_VALUE), false);
        due("3: ends that wrap back", s.span(1, Integer.MAX_VALUE, Integer.MIN_VALUE), false);
        due("3: no such input", s.span(2, 0, 0), false);
        for (int n : OUTSIDE) {
            due("3: no input", s.span(n, 0, 0), false);
        }
        s.name(1, 31, true);
        due("3: x kept", s.run(7, 100000, 0), 7);
        due("3: y kept", s.run(7, 100000, 1), 100000);
        due("3: below x", s.run(6, 100000, 0), NO_VALUE);
        due("3: above y", s.run(7, 100001, 0), NO_VALUE);
        due("3: below y", s.run(7, 99968, 0), NO_VALUE);
    }

    private static void stepArguments() {
        SumsOver s = new SumsOver();
        for (int kind = 0; kind <= 7; kind++) {
            for (int n : OUTSIDE) {
                due("4: no target of kind " + kind, s.step(kind, n, 0, 0), -1);
                if (kind != SET) {
                    due("4: no a of kind " + kind, s.step(kind, 0, n, 0), -1);
                }
                if (kind >= ADD && kind != SHIFT) {
                    due("4: no b of kind " + kind, s.step(kind, 0, 0, n), -1);
                }
            }
        }
        for (int kind : new int[] {-1, 10, Integer.MIN_VALUE, Integer.MAX_VALUE}) {
            due("4: no such kind", s.step(kind, 0, 0, 1), -1);
        }
        due("4: set too high", s.step(SET, 0, 0, 100001), -1);
        due("4: set too low", s.step(SET, 0, 0, -100001), -1);
        due("4: shift too low", s.step(SHIFT, 0, 0, -1), -1);
        due("4: shift too high", s.step(SHIFT, 0, 0, 13), -1);
        due("4: loop of none", s.step(LOOP, 0, 0, 0), -1);
        due("4: loop too often", s.step(LOOP, 0, 0, 13), -1);
        due("4: nothing came", s.count(0), 0);
        due("4: highest set, a doesn't matter", s.step(SET, 5, 99, 100000), 0);
        due("4: lowest set", s.step(SET, 0, -7, -100000), 1);
        due("4: copy, b doesn't matter", s.step(COPY, 5, 5, Integer.MIN_VALUE), 2);
        due("4: shift by none", s.step(SHIFT, 0, 5, 0), 3);
        due("4: shift by most", s.step(SHIFT, 0, 5, 12), 4);
        due("4: add of the last names", s.step(ADD, 5, 5, 5), 5);
        due("4: loop, target and a don't matter", s.step(LOOP, 77, -77, 12), 6);
        due("4: end, nothing matters", s.step(END, -9, Integer.MAX_VALUE, -9), 7);
        due("4: a run goes through all of them", s.run(0, 0, 4), 0);
        dueEnds("4: ends go through all of them", s, 4, 0, 0);
        due("4: needs go through all of them", s.need(4), 2);
    }

    private static void stepLimit() {
        SumsOver s = with(0, 31, 0, 31);
        due("4: loop", s.step(LOOP, 0, 0, 12), 0);
        for (int i = 1; i < 24; i++) {
            due("4: up to 24", s.step(ADD, 2, 2, 0), i);
        }
        due("4: the 25th", s.step(ADD, 2, 2, 0), -1);
        due("4: the 25th as end", s.step(END, 0, 0, 0), -1);
        due("4: count", s.count(0), 24);
        due("4: 23 steps 12 times", s.run(31, 0, 2), 23 * 12 * 31);
        due("4: the last can be asked", s.judge(23), 0);
        due("4: none behind it", s.judge(24), -1);
        s.name(2, 8, true);
        s.mode(1);
        due("4: the last goes over, unless x is 0", s.over(23), 31 * 32);
    }

    private static void stepLoops() {
        SumsOver s = new SumsOver();
        due("4: end at first", s.step(END, 0, 0, 0), -1);
        due("4: loop", s.step(LOOP, 0, 0, 1), 0);
        due("4: loop in a loop", s.step(LOOP, 0, 0, 1), -1);
        due("4: end at once", s.step(END, 0, 0, 0), 1);
        due("4: end again", s.step(END, 0, 0, 0), -1);
        due("4: a second loop", s.step(LOOP, 0, 0, 12), 2);
        due("4: in it", s.step(SET, 2, 0, 1), 3);
        due("4: loop within", s.step(LOOP, 0, 0, 12), -1);
        due("4: its end", s.step(END, 0, 0, 0), 4);
        due("4: five", s.count(0), 5);
    }

    private static void back() {
        SumsOver s = new SumsOver();
        s.step(SET, 2, 0, 5);
        s.step(LOOP, 0, 0, 3);
        s.step(ADD, 3, 3, 2);
        s.step(END, 0, 0, 0);
        s.step(ADD, 3, 3, 2);
        due("5: before", s.run(0, 0, 3), 20);
        due("5: the add", s.back(), true);
        due("5: after", s.run(0, 0, 3), 15);
        due("5: the end", s.back(), true);
        due("5: open again, a loop can't be", s.step(LOOP, 0, 0, 3), -1);
        due("5: the loop goes up to the last", s.run(0, 0, 3), 15);
        s.step(ADD, 3, 3, 2);
        due("5: more in the open loop", s.run(0, 0, 3), 30);
        s.back();
        s.back();
        s.back();
        due("5: no loop, an end can't be", s.step(END, 0, 0, 0), -1);
        due("5: a loop can be", s.step(LOOP, 0, 0, 2), 1);
        due("5: mark it", s.mean(1, true), true);
        s.back();
        due("5: its mark is gone", s.count(3), 0);
        s.step(LOOP, 0, 0, 2);
        due("5: the new one has none", s.mean(1, false), false);
        due("5: two go", s.back() && s.back(), true);
        due("5: none is left", s.back(), false);
        due("5: none", s.count(0), 0);
        backForgets();
    }

    private static void backForgets() {
        SumsOver s = with(0, 9, 0, 0);
        s.name(2, 4, true);
        s.step(COPY, 2, 0, 0);
        s.step(SHIFT, 2, 0, 1);
        due("5: over with it", s.count(2), 6);
        due("5: need with it", s.need(2), 6);
        dueEnds("5: ends with it", s, 2, -8, 7);
        s.back();
        due("5: over without it", s.count(2), 2);
        due("5: need without it", s.need(2), 5);
        s.back();
        due("5: over without both", s.count(2), 0);
        due("5: need without both", s.need(2), 2);
        dueEnds("5: ends without both", s, 2, 0, 0);
        s.step(COPY, 3, 0, 0);
        due("5: what could go over before can't now", s.judge(0), 0);
    }

    private static void mode() {
        SumsOver s = new SumsOver();
        s.step(SET, 2, 0, 40000);
        s.step(SET, 3, 0, -100000);
        due("6: mode 0", s.run(0, 0, 2), 40000 - 65536);
        due("6: mode 0 below", s.run(0, 0, 3), -100000 + 2 * 65536);
        due("6: to 1", s.mode(1), true);
        due("6: is 1", s.count(4), 1);
        due("6: mode 1", s.run(0, 0, 2), 32767);
        due("6: mode 1 below", s.run(0, 0, 3), -32768);
        for (int m : new int[] {-1, 2, Integer.MIN_VALUE, Integer.MAX_VALUE}) {
            due("6: no mode", s.mode(m), false);
        }
        due("6: refused keeps it", s.count(4), 1);
        due("6: again", s.mode(1), true);
        due("6: to 0", s.mode(0), true);
        due("6: mode 0 again", s.run(0, 0, 2), 40000 - 65536);
    }

    private static void run() {
        SumsOver s = with(-3, 4, 10, 12);
        s.step(COPY, 2, 1, 0);
        due("7: copy", s.run(-3, 11, 2), 11);
        s.step(ADD, 3, 0, 1);
        due("7: add", s.run(-3, 11, 3), 8);
        s.step(LESS_BY, 3, 0, 1);
        due("7: less by", s.run(-3, 11, 3), -14);
        s.step(TIMES, 4, 0, 1);
        due("7: times", s.run(-3, 11, 4), -33);
        s.step(SHIFT, 4, 0, 3);
        due("7: shift", s.run(-3, 11, 4), -24);
        s.step(SHIFT, 4, 1, 0);
        due("7: shift by none", s.run(-3, 11, 4), 11);
        s.step(MIN, 5, 1, 0);
        due("7: min", s.run(-3, 11, 5), -3);
        s.step(BELOW, 5, 0, 1);
        due("7: below", s.run(-3, 11, 5), 1);
        s.step(BELOW, 5, 1, 0);
        due("7: not below", s.run(-3, 11, 5), 0);
        s.step(BELOW, 5, 1, 1);
        due("7: not below itself", s.run(-3, 11, 5), 0);
        s.step(SET, 0, 0, -9);
        due("7: an input can be set", s.run(4, 12, 0), -9);
        due("7: the first y", s.run(4, 10, 1), 10);
        due("7: x too low", s.run(-4, 10, 1), NO_VALUE);
        due("7: x too high", s.run(5, 10, 1), NO_VALUE);
        due("7: y too low", s.run(4, 9, 1), NO_VALUE);
        due("7: y too high", s.run(4, 13, 1), NO_VALUE);
        for (int n : OUTSIDE) {
            due("7: no name", s.run(4, 10, n), NO_VALUE);
        }
        SumsOver wide = with(100000, 100000, 0, 0);
        wide.name(0, 31, true);
        wide.name(2, 31, false);
        wide.step(SHIFT, 0, 0, 12);
        wide.step(TIMES, 2, 0, 0);
        long square = (409600000L * 409600000L) % (1L << 31);
        due("7: a product beyond 31 bits", wide.run(100000, 0, 2), square);
    }

    private static void runPutsInputs() {
        SumsOver s = with(-5, 20, -5, 20);
        s.name(0, 4, true);
        s.name(1, 4, false);
        due("7: x wraps", s.run(9, 0, 0), -7);
        due("7: y wraps", s.run(0, 20, 1), 4);
        due("7: y wraps below", s.run(0, -1, 1), 15);
        due("7: that is no step's", s.count(2), 0);
        due("8: nor the first", s.first(9, 20), -1);
        s.mode(1);
        due("7: x is held", s.run(9, 0, 0), 7);
        due("7: y is held", s.run(0, 20, 1), 15);
        due("7: y is held below", s.run(0, -1, 1), 0);
        due("7: that is no step's either", s.count(2), 0);
    }

    private static void runLoops() {
        SumsOver s = with(1, 3, 0, 0);
        s.step(LOOP, 0, 0, 3);
        due("7: a loop of nothing", s.run(1, 0, 2), 0);
        s.step(ADD, 2, 2, 0);
        due("7: an open loop", s.run(2, 0, 2), 6);
        s.step(END, 0, 0, 0);
        s.step(ADD, 2, 2, 0);
        due("7: behind the end but once", s.run(2, 0, 2), 8);
        s.step(LOOP, 0, 0, 12);
        s.step(END, 0, 0, 0);
        s.step(LOOP, 0, 0, 2);
        s.step(SHIFT, 2, 2, 1);
        due("7: a second loop", s.run(2, 0, 2), 32);
    }

    private static void first() {
        SumsOver s = with(0, 10, 0, 3);
        s.name(2, 4, true);
        s.name(3, 4, true);
        s.step(LOOP, 0, 0, 2);
        s.step(ADD, 2, 2, 0);
        s.step(SHIFT, 3, 0, 1);
        due("8: none", s.first(3, 0), -1);
        due("8: the first in time", s.first(4, 0), 2);
        due("8: the loop's first", s.first(8, 0), 1);
        due("8: x of no run", s.first(11, 0), -1);
        due("8: x below", s.first(-1, 0), -1);
        due("8: y of no run", s.first(8, 4), -1);
        due("8: y below", s.first(8, -1), -1);
        due("8: far away", s.first(Integer.MAX_VALUE, Integer.MIN_VALUE), -1);
        s.mode(1);
        due("8: mode 1 too", s.first(4, 0), 2);
    }

    private static void judge() {
        SumsOver s = with(1, 4, -1, 1);
        s.name(2, 4, true);
        s.step(LESS_BY, 3, 0, 0);
        s.step(SHIFT, 2, 3, 2);
        s.step(SHIFT, 2, 0, 1);
        s.step(ADD, 4, 0, 1);
        s.step(SET, 2, 0, 8);
        due("9: 0", s.judge(0), 0);
        due("9: 1, spans alone fear it", s.judge(1), 1);
        due("9: 2", s.judge(2), 2);
        due("9: 0 again", s.judge(3), 0);
        due("9: 3", s.judge(4), 3);
        due("9: no such step", s.judge(5), -1);
        for (int n : OUTSIDE) {
            due("9: no step", s.judge(n), -1);
        }
        s.step(LOOP, 0, 0, 4);
        s.step(ADD, 5, 5, 0);
        s.step(END, 0, 0, 0);
        due("9: a loop", s.judge(5), 0);
        due("9: within 16 bits", s.judge(6), 0);
        due("9: an end", s.judge(7), 0);
        s.name(5, 5, true);
        due("9: just by 4 fours", s.judge(6), 2);
        s.name(5, 3, true);
        due("9: by 4 ones too", s.judge(6), 3);
        SumsOver t = with(0, 0, 0, 0);
        t.name(2, 2, true);
        t.step(SET, 3, 0, 1);
        t.step(BELOW, 2, 0, 3);
        due("9: below fits in 2 bits", t.judge(1), 0);
        t.step(SET, 2, 0, 1);
        due("9: so does 1", t.judge(2), 0);
        t.step(SET, 2, 0, 2);
        due("9: 2 doesn't", t.judge(3), 3);
        t.step(SET, 2, 0, -2);
        due("9: minus 2 does", t.judge(4), 0);
        t.step(SET, 2, 0, -3);
        due("9: minus 3 doesn't", t.judge(5), 3);
    }

    private static void over() {
        SumsOver s = with(0, 10, -5, 5);
        s.name(2, 4, true);
        s.step(ADD, 2, 0, 1);
        s.step(LOOP, 0, 0, 5);
        s.step(COPY, 2, 0, 0);
        s.step(END, 0, 0, 0);
        due("10: x + y above 7", s.over(0), 36);
        due("10: a loop", s.over(1), 0);
        due("10: a run counts once", s.over(2), 3 * 11);
        due("10: an end", s.over(3), 0);
        due("10: no such step", s.over(4), -1);
        for (int n : OUTSIDE) {
            due("10: no step", s.over(n), -1);
        }
        s.span(0, 8, 8);
        due("10: by the new span", s.over(2), 11);
        s.name(2, 5, true);
        due("10: by the new width", s.over(2), 0);
        s.name(2, 4, false);
        due("10: by the new sign", s.over(2), 0);
        s.back();
        s.step(SET, 2, 0, -1);
        due("10: by the new step", s.over(3), 11);
        s.name(3, 4, true);
        s.step(COPY, 3, 2, 0);
        due("10: 15 by mode 0", s.over(4), 11);
        s.mode(1);
        due("10: 0 by mode 1", s.over(4), 0);
    }

    private static void shown() {
        SumsOver s = with(-2, 10, 3, 34);
        s.name(2, 6, true);
        s.step(ADD, 2, 0, 1);
        due("11: y's last of the first x", s.shown(0), 31);
        s.name(2, 7, true);
        due("11: none", s.shown(0), -1);
        s.name(2, 6, true);
        s.span(0, -10, 10);
        due("11: a later x", s.shown(0), 32 * 8 + 31);
        s.step(LESS_BY, 2, 1, 0);
        due("11: y less x, 32 first", s.shown(1), 22 - 3);
        s.step(SET, 2, 0, 32);
        due("11: the first of all", s.shown(2), 0);
        s.step(LOOP, 0, 0, 2);
        due("11: a loop", s.shown(3), -1);
        due("11: no such step", s.shown(4), -1);
        for (int n : OUTSIDE) {
            due("11: no step", s.shown(n), -1);
        }
        SumsOver last = with(0, 31, 0, 31);
        last.name(2, 11, true);
        last.step(TIMES, 2, 0, 1);
        due("11: 31 times 31 fits", last.shown(0), -1);
        last.step(ADD, 2, 2, 0);
        last.step(ADD, 2, 2, 1);
        due("11: but not 31 and 31 more", last.shown(2), -1);
        last.step(SET, 3, 0, 1);
        last.step(ADD, 2, 2, 3);
        due("11: the last of all", last.shown(4), 1023);
    }

    private static void turned() {
        SumsOver s = with(-2, 2, 0, 1);
        s.name(0, 4, true);
        s.name(2, 8, false);
        s.step(SET, 2, 0, 200);
        s.step(BELOW, 3, 0, 2);
        due("12: minus 1 and minus 2", s.turned(1), 4);
        due("12: minus 1 is 255", s.run(-1, 0, 3), 0);
        due("12: 1 is below 200", s.run(1, 0, 3), 1);
        s.step(BELOW, 3, 2, 0);
        due("12: the other way", s.turned(2), 4);
        due("12: 200 is below 255", s.run(-1, 0, 3), 1);
        s.step(BELOW, 3, 0, 1);
        due("12: both signed", s.turned(3), 0);
        due("12: a set", s.turned(0), -1);
        due("12: no such step", s.turned(4), -1);
        for (int n : OUTSIDE) {
            due("12: no step", s.turned(n), -1);
        }
        s.name(1, 4, false);
        s.name(0, 4, false);
        due("12: both not signed", s.turned(3), 0);
        SumsOver t = with(-1, -1, 0, 0);
        t.name(0, 4, true);
        t.name(2, 8, false);
        t.step(LOOP, 0, 0, 3);
        t.step(BELOW, 3, 0, 2);
        t.step(SET, 2, 0, 255);
        due("12: 255 isn't below 255, but at some time it turned", t.turned(1), 1);
        due("12: by the greater width", t.run(-1, 0, 3), 0);
        turnedByBothWidths();
        turnedTogether();
        t.name(2, 9, false);
        due("12: by 512 it is 511", t.turned(1), 1);
        t.name(0, 31, true);
        t.name(2, 31, false);
        due("12: by 31 bits", t.turned(1), 1);
    }

    private static void turnedByBothWidths() {
        SumsOver s = with(-1, -1, 31, 31);
        s.name(0, 4, true);
        s.name(1, 8, false);
        s.step(BELOW, 2, 1, 0);
        due("12: 31 is below 255, not 15 below 15", s.run(-1, 31, 2), 1);
        s.span(0, 20, 20);
        s.span(1, 5, 5);
        s.name(0, 8, true);
        s.name(1, 4, false);
        s.step(BELOW, 2, 0, 1);
        due("12: 20 isn't below 5, nor is it taken as 4", s.run(20, 5, 2), 0);
    }

    private static void turnedTogether() {
        SumsOver s = with(-1, 0, 5, 5);
        s.name(1, 16, false);
        s.step(BELOW, 2, 0, 1);
        due("12: the first step alone", s.turned(0), 1);
        s.step(BELOW, 3, 1, 0);
        due("12: the first of two in one run", s.turned(0), 1);
        due("12: the second of two in one run", s.turned(1), 1);
        s.name(1, 16, true);
        due("12: none now", s.turned(0), 0);
    }

    private static void endsOfInputs() {
        SumsOver s = with(-3, 9, 2, 7);
        dueEnds("13: x", s, 0, -3, 9);
        dueEnds("13: y", s, 1, 2, 7);
        dueEnds("13: others", s, 2, 0, 0);
        s.name(0, 4, true);
        dueEnds("13: x doesn't fit, mode 0", s, 0, -8, 7);
        s.name(0, 4, false);
        dueEnds("13: x isn't signed, mode 0", s, 0, 0, 15);
        s.mode(1);
        dueEnds("13: mode 1 holds the least", s, 0, 0, 9);
        s.name(0, 3, false);
        dueEnds("13: mode 1 holds both", s, 0, 0, 7);
        s.name(1, 3, false);
        dueEnds("13: y just fits", s, 1, 2, 7);
        s.name(1, 2, false);
        dueEnds("13: y doesn't", s, 1, 2, 3);
        for (int n : OUTSIDE) {
            due("13: no name", s.ends(n, 0), NO_VALUE);
            due("13: no what", s.ends(0, n), NO_VALUE);
        }
        due("13: what 2", s.ends(0, 2), NO_VALUE);
    }

    private static void endsOfKinds() {
        SumsOver s = with(-3, 9, 2, 7);
        s.step(SET, 2, 0, -77);
        dueEnds("13: set", s, 2, -77, -77);
        s.step(COPY, 2, 1, 0);
        dueEnds("13: copy", s, 2, 2, 7);
        s.step(ADD, 2, 0, 1);
        dueEnds("13: add", s, 2, -1, 16);
        s.step(LESS_BY, 2, 0, 1);
        dueEnds("13: less by", s, 2, -10, 7);
        s.step(TIMES, 2, 0, 1);
        dueEnds("13: times", s, 2, -21, 63);
        s.step(TIMES, 2, 0, 0);
        dueEnds("13: times itself", s, 2, -27, 81);
        s.step(SHIFT, 2, 0, 2);
        dueEnds("13: shift", s, 2, -12, 36);
        s.step(MIN, 2, 0, 1);
        dueEnds("13: min", s, 2, -3, 7);
        s.step(LESS_BY, 3, 1, 1);
        dueEnds("13: less by itself", s, 3, -5, 5);
        s.step(LOOP, 0, 0, 4);
        s.step(ADD, 4, 4, 0);
        dueEnds("13: an open loop", s, 4, -12, 36);
        s.step(END, 0, 0, 0);
        dueEnds("13: a loop", s, 4, -12, 36);
        s.name(4, 6, true);
        dueEnds("13: a loop that could go over", s, 4, -32, 31);
        due("13: it could", s.judge(10), 2);
        s.mode(1);
        dueEnds("13: the same by mode 1", s, 4, -12, 31);
        SumsOver negative = with(-9, -2, -7, -3);
        negative.step(TIMES, 2, 0, 1);
        dueEnds("13: times below 0", negative, 2, 6, 63);
        SumsOver mixed = with(-9, -2, 3, 7);
        mixed.step(TIMES, 2, 0, 1);
        dueEnds("13: times of one below 0", mixed, 2, -63, -6);
        mixed.step(TIMES, 2, 1, 0);
        dueEnds("13: the same the other way", mixed, 2, -63, -6);
    }

    private static void endsOfBelow() {
        SumsOver s = with(1, 4, 5, 9);
        s.step(BELOW, 2, 0, 1);
        dueEnds("13: surely below", s, 2, 1, 1);
        s.step(BELOW, 2, 1, 0);
        dueEnds("13: surely not below", s, 2, 0, 0);
        s.step(BELOW, 2, 0, 1);
        s.span(1, 4, 9);
        dueEnds("13: perhaps below", s, 2, 0, 1);
        s.span(1, 0, 2);
        dueEnds("13: perhaps not below", s, 2, 0, 1);
        s.span(1, 0, 1);
        dueEnds("13: its least isn't below the greatest", s, 2, 0, 0);
        s.name(1, 16, false);
        dueEnds("13: of two signs", s, 2, 0, 1);
        s.span(1, 5, 9);
        dueEnds("13: of two signs, below", s, 2, 0, 1);
        s.name(0, 16, false);
        dueEnds("13: both not signed", s, 2, 1, 1);
        s.step(BELOW, 3, 0, 0);
        dueEnds("13: below itself", s, 3, 0, 1);
    }

    private static void need() {
        SumsOver s = with(-3, 4, 0, 3);
        s.step(SHIFT, 2, 0, 3);
        s.step(ADD, 3, 2, 0);
        s.step(SET, 2, 0, 0);
        due("14: x", s.need(0), 4);
        due("14: y", s.need(1), 3);
        due("14: the values on its way", s.need(2), 7);
        due("14: true values", s.need(3), 7);
        due("14: 0 alone", s.need(4), 2);
        s.name(2, 2, true);
        due("14: its width doesn't matter", s.need(2), 7);
        due("14: nor another's", s.need(3), 7);
        s.name(1, 16, false);
        due("14: not signed", s.need(1), 2);
        s.name(0, 16, false);
        due("14: below 0, not signed", s.need(0), -1);
        due("14: others have theirs", s.need(3), 7);
        for (int n : OUTSIDE) {
            due("14: no name", s.need(n), -1);
        }
        SumsOver edge = with(-4, 3, 0, 0);
        due("14: minus 4 .. 3", edge.need(0), 3);
        edge.span(0, -5, 3);
        due("14: minus 5 .. 3", edge.need(0), 4);
        edge.span(0, -4, 4);
        due("14: minus 4 .. 4", edge.need(0), 4);
        edge.step(SET, 0, 0, 0);
        due("14: an input's first value counts", edge.need(0), 4);
        SumsOver below = with(-1, 0, 0, 0);
        below.name(2, 8, false);
        below.step(SET, 2, 0, 200);
        below.step(BELOW, 3, 0, 2);
        below.step(SHIFT, 3, 3, 4);
        due("14: below by values themselves", below.need(3), 6);
        below.span(0, -1, -1);
        due("14: though the run turns it", below.run(-1, 0, 3), 0);
        due("14: so it needs them", below.need(3), 6);
        SumsOver fresh = with(-31, 0, 0, 3);
        fresh.step(ADD, 2, 2, 0);
        fresh.step(ADD, 2, 2, 1);
        due("14: each run begins with 0", fresh.need(2), 6);
        fresh.span(0, 0, 0);
        due("14: a narrower span needs less", fresh.need(2), 3);
        fresh.span(1, -4, -3);
        due("14: and so does one below 0", fresh.need(2), 3);
    }

    /** NAME 2 gets 2 to the power of 40 (or minus that), and that much more. */
    private static void needFarthest() {
        for (int sign = -1; sign <= 1; sign += 2) {
            SumsOver s = new SumsOver();
            s.step(SET, 2, 0, sign * 4);
            s.step(SET, 4, 0, 1);
            s.step(SHIFT, 2, 2, 12);
            s.step(SHIFT, 2, 2, 12);
            s.step(SHIFT, 2, 2, 12);
            due("14: 2 to 38", s.need(2), -1);
            s.step(SHIFT, 2, 2, 2);
            due("14: 2 to 40 fits in no width", s.need(2), -1);
            due("14: 2 to 40 spoils no other", s.need(4), 2);
            due("15: one is none", s.price(), -1);
            s.step(TIMES, 2, 2, 4);
            due("14: times 1", s.need(4), 2);
            s.step(sign > 0 ? ADD : LESS_BY, 2, 2, 4);
            due("14: one more spoils all", s.need(4), -1);
            s.back();
            s.step(TIMES, 3, 2, 2);
            due("14: 2 to 80 spoils all", s.need(4), -1);
            due("14: 2 to 80 spoils all others", s.need(0), -1);
            s.back();
            s.step(TIMES, 3, 2, 5);
            due("14: times 0 spoils none", s.need(3), 2);
            s.step(TIMES, 3, 5, 2);
            due("14: 0 times it spoils none", s.need(3), 2);
        }
        SumsOver product = with(32, 32, 0, 0);
        product.step(SHIFT, 2, 0, 12);
        product.step(SHIFT, 3, 2, 3);
        product.step(TIMES, 4, 3, 3);
        due("14: 2 to 20 squared is 2 to 40", product.need(2), 19);
        product.step(ADD, 3, 3, 0);
        product.step(TIMES, 4, 3, 3);
        due("14: a little more isn't", product.need(2), -1);
        SumsOver once = with(0, 31, 0, 31);
        once.step(TIMES, 2, 0, 1);
        once.step(SHIFT, 2, 2, 12);
        once.step(SHIFT, 2, 2, 12);
        due("14: 961 times 2 to 24", once.need(0), 6);
        once.step(SHIFT, 2, 2, 6);
        due("14: 961 times 2 to 30", once.need(0), 6);
        once.step(SHIFT, 2, 2, 1);
        due("14: one run is enough", once.need(0), -1);
        SumsOver widest = with(1, 1, 0, 0);
        widest.step(SHIFT, 2, 0, 12);
        widest.step(SHIFT, 2, 2, 12);
        widest.step(SHIFT, 2, 2, 6);
        due("14: 2 to 30, signed", widest.need(2), -1);
        widest.step(LESS_BY, 2, 2, 0);
        due("14: still, it had it", widest.need(2), -1);
        widest.name(2, 2, false);
        due("14: 2 to 30, not signed", widest.need(2), 31);
        SumsOver lowest = with(-1, -1, 0, 0);
        lowest.step(SHIFT, 2, 0, 12);
        lowest.step(SHIFT, 2, 2, 12);
        lowest.step(SHIFT, 2, 2, 6);
        due("14: minus 2 to 30", lowest.need(2), 31);
    }

    private static SumsOver tooNarrow() {
        SumsOver s = with(-3, 4, 0, 3);
        s.name(0, 3, true);
        s.name(2, 5, true);
        s.name(3, 9, false);
        s.step(SHIFT, 2, 0, 3);
        s.step(TIMES, 3, 1, 1);
        return s;
    }

    private static void price() {
        SumsOver s = tooNarrow();
        due("15: 1 of x, 2 of name 2, none of others", s.price(), 3);
        due("15: changes nothing", s.price(), 3);
        due("15: no width", s.count(12), 5);
        s.name(1, 2, true);
        due("15: y too", s.price(), 4);
        s.name(5, 2, true);
        due("15: just as wide as needed", s.price(), 4);
        s.name(0, 31, false);
        due("15: x can't", s.price(), -1);
    }

    private static void mend() {
        SumsOver s = tooNarrow();
        due("16: two", s.mend(), 2);
        due("16: x's width", s.count(10), 4);
        due("16: name 2's width", s.count(12), 7);
        due("16: name 3 stays", s.count(13), 9);
        due("16: its sign stays", s.count(23), 0);
        due("16: name 4 stays", s.count(14), 16);
        due("16: none goes over", s.count(2), 0);
        due("16: price", s.price(), 0);
        due("16: again", s.mend(), 0);
        SumsOver t = tooNarrow();
        due("16: some go over before", t.count(2) > 0, true);
        t.mend();
        due("16: what was known before is known no more", t.count(2), 0);
        due("16: by spans too", t.judge(0), 0);
        SumsOver refused = tooNarrow();
        refused.name(4, 8, false);
        refused.step(SET, 4, 0, -1);
        due("16: one is none", refused.mend(), -1);
        due("16: x stays", refused.count(10), 3);
        due("16: name 2 stays", refused.count(12), 5);
    }

    private static void mean() {
        SumsOver s = new SumsOver();
        s.step(LOOP, 0, 0, 1);
        s.step(SET, 2, 0, 1);
        due("17: not meant already", s.mean(0, false), false);
        due("17: a loop can be", s.mean(0, true), true);
        due("17: again", s.mean(0, true), false);
        due("17: another", s.mean(1, true), true);
        due("17: two", s.count(3), 2);
        due("17: not any more", s.mean(0, false), true);
        due("17: one", s.count(3), 1);
        due("17: no such step", s.mean(2, true), false);
        for (int n : OUTSIDE) {
            due("17: no step", s.mean(n, true), false);
            due("17: no step, not meant", s.mean(n, false), false);
        }
        due("17: still one", s.count(3), 1);
    }

    private static void listed() {
        SumsOver s = with(0, 9, 0, 0);
        s.name(2, 4, true);
        s.step(COPY, 2, 0, 0);
        s.step(SHIFT, 2, 0, 2);
        s.step(COPY, 3, 0, 0);
        s.step(COPY, 2, 0, 0);
        s.step(SET, 2, 0, 9);
        s.step(SHIFT, 2, 0, 1);
        int[] list = {4, 1, 5, 0, 3, -1};
        for (int i = 0; i < list.length; i++) {
            due("18: the " + i + "-th", s.listed(i), list[i]);
        }
        s.mean(1, true);
        s.mean(2, true);
        due("18: one behind, as it is meant", s.listed(1), 5);
        due("18: four are left", s.listed(4), -1);
        due("18: the last", s.listed(3), 3);
        s.mean(1, false);
        due("18: there again", s.listed(1), 1);
        for (int n : OUTSIDE) {
            due("18: none", s.listed(n), -1);
        }
        SumsOver feared = with(0, 3, 0, 0);
        feared.name(2, 2, true);
        feared.step(LESS_BY, 2, 0, 0);
        due("18: judged 1", feared.judge(0), 1);
        due("18: so it isn't listed", feared.listed(0), -1);
    }

    private static void count() {
        SumsOver s = with(0, 9, -1, 1);
        s.name(2, 4, true);
        s.name(4, 9, false);
        s.step(COPY, 2, 0, 0);
        s.step(ADD, 2, 0, 1);
        s.mean(0, true);
        due("19: steps", s.count(0), 2);
        due("19: runs", s.count(1), 30);
        due("19: some step goes over, the meant ones too", s.count(2), 7);
        due("19: meant", s.count(3), 1);
        due("19: mode", s.count(4), 0);
        int[] none = {-1, 5, 6, 9, 16, 17, 19, 26, 27, 30, Integer.MIN_VALUE, Integer.MAX_VALUE};
        for (int what : none) {
            due("19: none", s.count(what), -1);
        }
        due("19: width", s.count(14), 9);
        due("19: not signed", s.count(24), 0);
        due("19: signed", s.count(25), 1);
        s.span(0, 0, 31);
        s.span(1, 0, 31);
        due("19: most runs", s.count(1), 1024);
    }

    private static void refusedChangesNothing() {
        SumsOver s = tooNarrow();
        s.mode(1);
        s.mean(0, true);
        int[] before = all(s);
        s.name(0, 1, false);
        s.name(6, 9, false);
        s.span(0, 5, 4);
        s.span(2, 5, 5);
        s.step(END, 0, 0, 0);
        s.step(ADD, 0, 0, 6);
        s.mode(2);
        s.mean(0, true);
        s.mean(2, true);
        int[] after = all(s);
        for (int i = 0; i < before.length; i++) {
            due("what is refused changes nothing, " + i, after[i], before[i]);
        }
    }

    private static int[] all(SumsOver s) {
        int[] answers = new int[64];
        for (int i = 0; i < 30; i++) {
            answers[i] = s.count(i);
        }
        for (int n = 0; n < 6; n++) {
            answers[30 + n] = s.ends(n, 0);
            answers[36 + n] = s.ends(n, 1);
            answers[42 + n] = s.need(n);
            answers[48 + n] = s.run(4, 3, n);
            answers[54 + n] = s.over(n);
        }
        answers[60] = s.listed(0);
        answers[61] = s.price();
        return answers;
    }
}
