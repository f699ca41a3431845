/** Promises 14 to 19, sentence by sentence: NEED, PRICE, what is MENDED and MEANT, the LIST, counts. */
public final class EdgesOfPromises14To19Test extends Edges {
    public static void main(String[] args) {
        EdgesOfPromises14To19Test test = new EdgesOfPromises14To19Test();
        test.promise14();
        test.promise15();
        test.promise16();
        test.promise17();
        test.promise18();
        test.promise19();
        test.check.end();
    }

    private void promise14() {
        check.of("Promise 14: need");
        check.holds("NEED", this::promise14Need);
        check.holds("NONE also if there is no such NAME", this::promise14NoName);
        check.holds("NONE if there is none (no WIDTH)", this::promise14NoWidth);
        check.holds("(at no STEPS, at one RUN, with 24 STEPS)", this::promise14Sizes);
    }

    private void promise15() {
        check.of("Promise 15: price");
        check.holds("PRICE", this::promise15Price);
        check.holds("NONE if a NEED is NONE", this::promise15None);
    }

    private void promise16() {
        check.of("Promise 16: mend");
        check.holds("MENDED: how many NAMES", this::promise16Mended);
        check.holds("NONE if a NEED is NONE", this::promise16None);
        check.holds("(nothing to be MENDED)", this::promise16Nothing);
    }

    private void promise17() {
        check.of("Promise 17: mean");
        check.holds("A STEP is MEANT (or not): true", this::promise17True);
        check.holds("false if there is none such", this::promise17NoStep);
        check.holds("or it is so already", this::promise17Already);
    }

    private void promise18() {
        check.of("Promise 18: listed");
        check.holds("The i-th of the LIST (from 0 on)", this::promise18Listed);
        check.holds("NONE if there is none such", this::promise18None);
    }

    private void promise19() {
        check.of("Promise 19: count");
        check.holds("0 STEPS", this::promise19Steps);
        check.holds("1 RUNS", this::promise19Runs);
        check.holds("2 those in which some STEP goes over", this::promise19RunsOver);
        check.holds("3 STEPS that are MEANT", this::promise19Meant);
        check.holds("4 MODE", this::promise19Mode);
        check.holds("10 and a NAME its WIDTH; 20 and a NAME whether it is SIGNED", this::promise19Names);
        check.holds("NONE for others", this::promise19Others);
    }

    // ---- 14

    private void promise14Need() {
        SumsOver s = program();
        int[] needs = {4, 5, 6, 8, 5, 2};
        for (int n = 0; n <= 5; n++) {
            due("NAME " + n, s.need(n), needs[n]);
        }
        s.mode(1);
        s.name(2, 31, true);
        s.name(4, 2, true);
        due("MODE and WIDTH don't matter", s.need(2) * 10 + s.need(4), 65);
        s.name(2, 2, false);
        due("its sign does", s.need(2), 5);
        s.mean(1, true);
        due("a mark doesn't", s.need(2), 5);
        s.span(1, 10, 11);
        due("the SPAN does: 15", s.need(2), 4);
    }

    private void promise14NoName() {
        for (int n : NO_NAMES) {
            refusedInAll("need(" + n + ")", s -> s.need(n), NONE);
        }
    }

    private void promise14NoWidth() {
        SumsOver s = belowZero();
        due("-1 without a sign", s.need(3), NONE);
        due("the others have theirs", s.need(2), 6);
        s.back();
        due("once it is gone", s.need(3), 8);
        for (int n = 0; n <= 5; n++) {
            int asked = n;
            refused("a value too far, NAME " + n, Edges::tooFar, o -> o.need(asked), NONE);
        }
        refused("-1 without a sign", Edges::belowZero, o -> o.need(3), NONE);
        SumsOver far = tooFar();
        far.back();
        due("once that is gone", far.need(2), 6);
        due("17 times 2 to 24", far.need(5), 30);
    }

    private void promise14Sizes() {
        SumsOver s = oneRun(-100000, 100000);
        due("x", s.need(0), 18);
        due("y", s.need(1), 18);
        due("another", s.need(2), 2);
        s.name(1, 2, false);
        due("y without a sign", s.need(1), 17);
        s.name(0, 31, false);
        due("x without a sign", s.need(0), NONE);
        SumsOver full = new SumsOver();
        full.step(SET, 3, 0, 1);
        full.step(LOOP, 0, 0, 12);
        for (int step = 2; step < 24; step++) {
            full.step(ADD, 2, 2, 3);
        }
        due("22 STEPS 12 times: 264", full.need(2), 10);
        full.back();
        due("21 STEPS 12 times: 252", full.need(2), 9);
    }

    // ---- 15

    private void promise15Price() {
        SumsOver s = program();
        due("of three NAMES", s.price(), 5);
        due("it gives no bits", s.count(12) * 100 + s.count(13) * 10 + s.count(14), 464);
        s.name(2, 5, true);
        s.name(3, 7, false);
        due("a bit each", s.price(), 3);
        s.name(2, 6, true);
        s.name(3, 8, false);
        s.name(4, 5, true);
        due("none", s.price(), 0);
        s.name(0, 3, true);
        s.name(1, 4, true);
        due("INPUTS, too", s.price(), 2);
        due("at first", new SumsOver().price(), 0);
        due("the most", allNeed31().price(), 6 * 29);
    }

    /** Every NAME has 2 bits and needs 31. */
    private static SumsOver allNeed31() {
        SumsOver s = new SumsOver();
        s.step(SET, 0, 0, 1);
        s.step(SHIFT, 0, 0, 12);
        s.step(SHIFT, 0, 0, 12);
        s.step(SHIFT, 0, 0, 5);
        for (int n = 0; n <= 5; n++) {
            s.name(n, 2, true);
            s.step(COPY, n, 0, 0);
        }
        return s;
    }

    private void promise15None() {
        refused("a value too far", Edges::tooFar, SumsOver::price, NONE);
        refused("-1 without a sign", Edges::belowZero, SumsOver::price, NONE);
        for (int n = 0; n <= 5; n++) {
            SumsOver s = new SumsOver();
            s.name(n, 31, false);
            s.step(SET, n, 0, -1);
            due("NAME " + n + " alone has none", s.price(), NONE);
            s.name(n, 31, true);
            due("NAME " + n + " has one", s.price(), 0);
        }
    }

    // ---- 16

    private void promise16Mended() {
        SumsOver s = program();
        due("three", s.mend(), 3);
        due("PRICE", s.price(), 0);
        due("OVER", s.over(9), 0);
        due("JUDGED", s.judge(9), 0);
        due("a value", s.run(4, 12, 3), 144);
        dueEnds("by SPANS", s, 3, 100, 144);
        due("marks stay", s.count(3), 2);
        due("STEPS stay", s.count(0), 10);
        SumsOver all = allNeed31();
        due("six", all.mend(), 6);
        for (int n = 0; n <= 5; n++) {
            due("WIDTH of " + n, all.count(10 + n), 31);
            due("sign of " + n, all.count(20 + n), 1);
        }
        SumsOver one = program();
        one.name(2, 6, true);
        one.name(3, 31, false);
        due("one", one.mend(), 1);
        due("it is NAME 4", one.count(14), 5);
        due("as wide as it needs", one.count(12), 6);
        due("wider", one.count(13), 31);
        SumsOver learnt = program();
        due("RUNS over", learnt.count(2), 24);
        learnt.mend();
        due("RUNS over then", learnt.count(2), 0);
        due("STEP 9 is first no more", learnt.first(4, 12), NONE);
    }

    private void promise16None() {
        refused("a value too far", Edges::tooFar, SumsOver::mend, NONE);
        refused("-1 without a sign", Edges::belowZero, SumsOver::mend, NONE);
        for (int n = 0; n <= 5; n++) {
            int unmendable = n;
            refused("NAME " + n + " alone", () -> without(unmendable), SumsOver::mend, NONE);
        }
    }

    /** All NAMES have 2 bits and need more, but one that has no NEED. */
    private static SumsOver without(int name) {
        SumsOver s = allNeed31();
        s.step(SET, name, 0, -1);
        s.name(name, 2, false);
        return s;
    }

    private void promise16Nothing() {
        SumsOver s = program();
        s.mend();
        Answers before = new Answers(s);
        due("again", s.mend(), 0);
        new Answers(s).dueAs(check, "again", before);
        due("at first", new SumsOver().mend(), 0);
    }

    // ---- 17

    private void promise17True() {
        SumsOver s = full();
        for (int step = 0; step < 24; step++) {
            boolean already = step == 1 || step == 8;
            due("STEP " + step, s.mean(step, true), !already);
        }
        due("24 are", s.count(3), 24);
        due("none is listed", s.listed(0), NONE);
        for (int step = 23; step >= 0; step--) {
            due("not STEP " + step, s.mean(step, false), true);
            due("so many are left", s.count(3), step);
        }
        SumsOver same = program();
        same.mean(3, true);
        same.mean(3, false);
        new Answers(same).dueAs(check, "marked and not any more", new Answers(program()));
    }

    private void promise17NoStep() {
        for (int step : new int[] {LOWEST, -24, -1, 12, 23, 24, 32, HIGHEST}) {
            refusedInAll("mean(" + step + ", true)", s -> s.mean(step, true));
            refusedInAll("mean(" + step + ", false)", s -> s.mean(step, false));
        }
        refused("the first of none", SumsOver::new, s -> s.mean(0, true) ? 1 : 0, 0);
        refused("just behind the last", Edges::program, s -> s.mean(10, true) ? 1 : 0, 0);
        refused("behind 24", Edges::full, s -> s.mean(24, true) ? 1 : 0, 0);
    }

    private void promise17Already() {
        for (int step = 0; step < 10; step++) {
            int asked = step;
            boolean is = step == 1 || step == 8;
            refused("STEP " + step, Edges::program, s -> s.mean(asked, is) ? 1 : 0, 0);
        }
        SumsOver s = program();
        s.mean(1, false);
        due("not any more, again", s.mean(1, false), false);
        due("8 alone", s.count(3), 1);
    }

    // ---- 18

    private void promise18Listed() {
        SumsOver s = program();
        s.mean(1, false);
        s.mean(8, false);
        int[] list = {8, 9, 1, 3};
        for (int i = 0; i < list.length; i++) {
            due("the " + i + "-th", s.listed(i), list[i]);
        }
        s.span(0, -3, -3);
        int[] narrower = {3, 8, 9, 1};
        for (int i = 0; i < narrower.length; i++) {
            due("by the new SPAN, the " + i + "-th", s.listed(i), narrower[i]);
        }
        SumsOver full = spans(0, 31, 1, 1);
        full.mode(1);
        full.name(0, 5, false);
        for (int step = 0; step < 24; step++) {
            full.step(ADD, 0, 0, 1);
        }
        for (int i = 0; i < 24; i++) {
            due("of 24, the " + i + "-th", full.listed(i), 23 - i);
        }
        full.mean(23, true);
        full.mean(0, true);
        due("of 22, the first", full.listed(0), 22);
        due("of 22, the last", full.listed(21), 1);
        due("of 22, no more", full.listed(22), NONE);
    }

    private void promise18None() {
        for (int i : new int[] {LOWEST, -1, 4, 23, 24, HIGHEST}) {
            refusedInAll("listed(" + i + ")", s -> s.listed(i), NONE);
        }
        refused("of 2, the third", Edges::program, s -> s.listed(2), NONE);
        refused("of none, the first", SumsOver::new, s -> s.listed(0), NONE);
        SumsOver feared = spans(0, 2, 0, 0);
        feared.name(2, 2, false);
        feared.step(LESS_BY, 2, 0, 0);
        feared.step(SET, 2, 0, 3);
        due("JUDGED 1 and 0", feared.judge(0) * 10 + feared.judge(1), 10);
        due("neither is listed", feared.listed(0), NONE);
    }

    // ---- 19

    private void promise19Steps() {
        SumsOver s = new SumsOver();
        for (int step = 0; step < 24; step++) {
            due("before", s.count(0), step);
            s.step(step == 0 ? LOOP : SET, 0, 0, 1);
        }
        due("the most", s.count(0), 24);
        s.step(SET, 0, 0, 1);
        due("still", s.count(0), 24);
        s.back();
        due("one less", s.count(0), 23);
    }

    private void promise19Runs() {
        due("at first", new SumsOver().count(1), 1);
        due("one", oneRun(-100000, 100000).count(1), 1);
        due("32 by 1", spans(-100000, -99969, 5, 5).count(1), 32);
        due("1 by 32", spans(5, 5, 99969, 100000).count(1), 32);
        due("8 by 3", program().count(1), 24);
        due("the most", spans(0, 31, -31, 0).count(1), 1024);
    }

    private void promise19RunsOver() {
        due("at first", new SumsOver().count(2), 0);
        due("all", program().count(2), 24);
        SumsOver s = spans(0, 31, 0, 31);
        s.name(2, 4, false);
        s.step(COPY, 2, 0, 0);
        due("x of 16 and more", s.count(2), 16 * 32);
        s.step(COPY, 2, 1, 0);
        due("or y of 16 and more", s.count(2), 1024 - 16 * 16);
        s.step(COPY, 2, 0, 0);
        due("a RUN counts once", s.count(2), 1024 - 16 * 16);
        s.mean(0, true);
        s.mean(1, true);
        s.mean(2, true);
        due("MEANT ones count", s.count(2), 1024 - 16 * 16);
        s.step(SET, 2, 0, -1);
        due("the most", s.count(2), 1024);
        s.name(0, 2, true);
        s.name(1, 2, true);
        s.name(2, 16, true);
        due("INPUTS that are put don't", s.count(2), 0);
    }

    private void promise19Meant() {
        due("at first", new SumsOver().count(3), 0);
        SumsOver s = program();
        due("two", s.count(3), 2);
        s.mean(0, true);
        due("three", s.count(3), 3);
        s.mean(0, true);
        due("still", s.count(3), 3);
        s.mean(0, false);
        due("two again", s.count(3), 2);
    }

    private void promise19Mode() {
        SumsOver s = program();
        due("0", s.count(4), 0);
        s.mode(1);
        due("1", s.count(4), 1);
        s.mode(2);
        due("still", s.count(4), 1);
        s.mode(0);
        due("0 again", s.count(4), 0);
    }

    private void promise19Names() {
        SumsOver s = new SumsOver();
        for (int n = 0; n <= 5; n++) {
            due("WIDTH at first", s.count(10 + n), 16);
            due("SIGNED at first", s.count(20 + n), 1);
            s.name(n, 2 + n, n % 2 == 0);
        }
        for (int n = 0; n <= 5; n++) {
            due("WIDTH of " + n, s.count(10 + n), 2 + n);
            due("SIGNED of " + n, s.count(20 + n), n % 2 == 0 ? 1 : 0);
        }
    }

    private void promise19Others() {
        for (int what : new int[] {LOWEST, -20, -10, -1, 5, 6, 9, 16, 17, 19, 26, 27, 30, 100, HIGHEST}) {
            refusedInAll("count(" + what + ")", s -> s.count(what), NONE);
        }
    }
}
