/** What the tests of boundary cases share: KINDS by name, numbers that are none, objects to begin with. */
abstract class Edges {
    static final int NONE = -1;
    static final int NO_VALUE = -2147483648;
    static final int LOWEST = Integer.MIN_VALUE;
    static final int HIGHEST = Integer.MAX_VALUE;
    static final int SET = 0;
    static final int COPY = 1;
    static final int ADD = 2;
    static final int LESS_BY = 3;
    static final int TIMES = 4;
    static final int SHIFT = 5;
    static final int MIN = 6;
    static final int BELOW = 7;
    static final int LOOP = 8;
    static final int END = 9;
    static final int[] NO_NAMES = {LOWEST, -100, -6, -1, 6, 7, 100, HIGHEST};
    static final int[] ANY = {LOWEST, -1, 0, 5, 6, 100001, HIGHEST};

    final Check check = new Check(getClass().getName());

    /** A new object, told some things. */
    interface Scene {
        SumsOver made();
    }

    /** A call; a boolean counts 1 or 0. */
    interface Call {
        long on(SumsOver s);
    }

    interface Question {
        boolean on(SumsOver s);
    }

    void due(String what, long got, long want) {
        check.due(what, got, want);
    }

    void due(String what, boolean got, boolean want) {
        check.due(what, got, want);
    }

    void dueEnds(String what, SumsOver s, int name, long least, long greatest) {
        due(what + ", least", s.ends(name, 0), least);
        due(what + ", greatest", s.ends(name, 1), greatest);
    }

    /** The call answers so, and behind it all that can be asked or told goes on as if it had not come. */
    void refused(String what, Scene scene, Call call, long answer) {
        SumsOver s = scene.made();
        Answers before = new Answers(s);
        due(what, call.on(s), answer);
        new Answers(s).dueAs(check, what, before);
        SumsOver twin = scene.made();
        due(what + ", then an END", s.step(END, 0, 0, 0), twin.step(END, 0, 0, 0));
        due(what + ", then a LOOP", s.step(LOOP, 0, 0, 2), twin.step(LOOP, 0, 0, 2));
        due(what + ", then a SET", s.step(SET, 2, 0, 1), twin.step(SET, 2, 0, 1));
        due(what + ", then NAME 2", s.run(-3, 10, 2), twin.run(-3, 10, 2));
        due(what + ", then marks", s.count(3), twin.count(3));
    }

    /** Likewise, in all Scenes where nothing but the call's own numbers can be the ground. */
    void refusedInAll(String what, Call call, long answer) {
        refused(what + " at first", SumsOver::new, call, answer);
        refused(what + " in a program", Edges::program, call, answer);
        refused(what + " in an open LOOP by MODE 1", Edges::openLoop, call, answer);
    }

    void refusedInAll(String what, Question question) {
        refusedInAll(what, s -> question.on(s) ? 1 : 0, 0);
    }

    static SumsOver spans(int x0, int x1, int y0, int y1) {
        SumsOver s = new SumsOver();
        s.span(0, x0, x1);
        s.span(1, y0, y1);
        return s;
    }

    static SumsOver oneRun(int x, int y) {
        return spans(x, x, y, y);
    }

    /** Has STEPS that are JUDGED 0, 1, 2 and 3, one TURNED, two MEANT, a LOOP, a PRICE of 5. */
    static SumsOver program() {
        SumsOver s = spans(-3, 4, 10, 12);
        s.name(2, 4, true);
        s.name(3, 6, false);
        s.name(4, 4, true);
        s.step(SET, 2, 0, 7);
        s.step(ADD, 2, 0, 1);
        s.step(LOOP, 0, 0, 3);
        s.step(ADD, 4, 4, 0);
        s.step(END, 0, 0, 0);
        s.step(LESS_BY, 5, 0, 0);
        s.step(SHIFT, 2, 5, 2);
        s.step(BELOW, 5, 0, 3);
        s.step(TIMES, 3, 1, 1);
        s.step(SET, 2, 0, 9);
        s.mean(1, true);
        s.mean(8, true);
        return s;
    }

    static SumsOver openLoop() {
        SumsOver s = program();
        s.mode(1);
        s.step(LOOP, 0, 0, 12);
        s.step(ADD, 5, 5, 0);
        return s;
    }

    /** 24 STEPS. */
    static SumsOver full() {
        SumsOver s = openLoop();
        for (int step = 12; step < 24; step++) {
            s.step(step % 2 == 0 ? ADD : MIN, 2, 4, 0);
        }
        return s;
    }

    /** A TRUE value that isn't within 2 to the power of 40. */
    static SumsOver tooFar() {
        SumsOver s = program();
        s.step(SET, 5, 0, 17);
        s.step(SHIFT, 5, 5, 12);
        s.step(SHIFT, 5, 5, 12);
        s.step(SHIFT, 5, 5, 12);
        return s;
    }

    /** A NAME that isn't SIGNED gets a TRUE value below 0. */
    static SumsOver belowZero() {
        SumsOver s = program();
        s.step(SET, 3, 0, -1);
        return s;
    }

    /** NAME 3 gets 1, NAME 4 (not SIGNED) 2 to that power, NAME 5 minus that; all are in their RANGE. */
    static void powers(SumsOver s, int power) {
        s.name(3, 31, true);
        s.name(4, 31, false);
        s.name(5, 31, true);
        s.step(SET, 3, 0, 1);
        s.step(SHIFT, 4, 3, Math.min(power, 12));
        s.step(SHIFT, 4, 4, Math.max(0, Math.min(power - 12, 12)));
        s.step(SHIFT, 4, 4, Math.max(0, power - 24));
        s.step(SET, 5, 0, 0);
        s.step(LESS_BY, 5, 5, 4);
    }

    static long power(int exponent) {
        return 1L << exponent;
    }
}
