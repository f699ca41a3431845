import java.util.Random;

/** Many runs of calls, made by fixed seeds, on the class and on the model side by side. */
public final class ModelTest {
    private static final int OBJECTS = 200;
    private static final int CALLS = 280;

    private final Check check = new Check("ModelTest");
    private Random random;
    private SumsOver one;
    private Model other;
    private String where;
    private boolean tight;

    public static void main(String[] args) {
        ModelTest test = new ModelTest();
        for (int seed = 0; seed < OBJECTS && test.check.wrong() < 20; seed++) {
            test.object(seed);
        }
        test.check.end();
    }

    private void object(int seed) {
        random = new Random(seed);
        one = new SumsOver();
        other = new Model();
        tight = random.nextBoolean();
        for (int call = 0; call < CALLS; call++) {
            where = "seed " + seed + ", call " + call + ": ";
            if (call < 40 || random.nextInt(100) < 35) {
                change();
            } else {
                ask();
            }
        }
        where = "seed " + seed + ", at the end: ";
        askAll();
    }

    private int upTo(int least, int most) {
        return least + random.nextInt(most - least + 1);
    }

    /** Mostly within least .. most, at times just outside or far away. */
    private int near(int least, int most) {
        int chance = random.nextInt(40);
        if (chance == 0) return least - 1;
        if (chance == 1) return most + 1;
        if (chance == 2) return random.nextBoolean() ? Integer.MIN_VALUE : Integer.MAX_VALUE;
        if (chance == 3) return random.nextInt();
        return upTo(least, most);
    }

    private void change() {
        switch (random.nextInt(14)) {
            case 0, 1 -> tellName();
            case 2, 3 -> tellSpan();
            case 4, 5, 6, 7, 8, 9 -> tellStep();
            case 10 -> check.due(where + "back", one.back(), other.back());
            case 11 -> {
                int mode = near(0, 1);
                check.due(where + "mode", one.mode(mode), other.mode(mode));
            }
            case 12 -> {
                int step = near(0, Math.max(0, other.count(0) - 1));
                boolean is = random.nextInt(3) > 0;
                check.due(where + "mean", one.mean(step, is), other.mean(step, is));
            }
            default -> {
                if (random.nextInt(4) == 0) check.due(where + "mend", one.mend(), other.mend());
            }
        }
    }

    private void tellName() {
        int name = near(0, 5);
        int width = tight ? near(2, 9) : near(2, 31);
        boolean signed = random.nextInt(3) > 0;
        check.due(where + "name", one.name(name, width, signed), other.name(name, width, signed));
    }

    private void tellSpan() {
        int input = near(0, 1);
        int from = random.nextInt(3) == 0 ? near(-100000, 100000) : near(-12, 12);
        int to = random.nextInt(12) == 0 ? near(from, from + 31) : from + random.nextInt(5);
        check.due(where + "span", one.span(input, from, to), other.span(input, from, to));
    }

    private void tellStep() {
        int kind = near(0, 9);
        int b = switch (kind) {
            case 0 -> random.nextBoolean() ? near(-9, 9) : near(-100000, 100000);
            case 5 -> tight ? near(0, 3) : near(0, 12);
            case 8 -> near(1, tight ? 4 : 12);
            default -> near(0, 5);
        };
        int target = near(0, 5);
        int a = near(0, 5);
        check.due(where + "step", one.step(kind, target, a, b), other.step(kind, target, a, b));
    }

    private void ask() {
        int step = near(0, Math.max(0, other.count(0) - 1));
        int name = near(0, 5);
        switch (random.nextInt(14)) {
            case 0 -> check.due(where + "judge", one.judge(step), other.judge(step));
            case 1 -> check.due(where + "over", one.over(step), other.over(step));
            case 2 -> check.due(where + "shown", one.shown(step), other.shown(step));
            case 3 -> check.due(where + "turned", one.turned(step), other.turned(step));
            case 4 -> check.due(where + "ends", one.ends(name, step), other.ends(name, step));
            case 5 -> check.due(where + "least", one.ends(name, 0), other.ends(name, 0));
            case 6 -> check.due(where + "greatest", one.ends(name, 1), other.ends(name, 1));
            case 7 -> check.due(where + "need", one.need(name), other.need(name));
            case 8 -> check.due(where + "price", one.price(), other.price());
            case 9 -> {
                int i = near(0, 3);
                check.due(where + "listed", one.listed(i), other.listed(i));
            }
            case 10 -> {
                int what = near(0, 26);
                check.due(where + "count", one.count(what), other.count(what));
            }
            case 11 -> check.due(where + "count 2", one.count(2), other.count(2));
            default -> askRun(near(-13, 17), near(-13, 17), name);
        }
    }

    private void askRun(int x, int y, int name) {
        check.due(where + "run", one.run(x, y, name), other.run(x, y, name));
        check.due(where + "first", one.first(x, y), other.first(x, y));
    }

    private void askAll() {
        for (int s = -1; s <= other.count(0); s++) {
            check.due(where + "judge " + s, one.judge(s), other.judge(s));
            check.due(where + "over " + s, one.over(s), other.over(s));
            check.due(where + "shown " + s, one.shown(s), other.shown(s));
            check.due(where + "turned " + s, one.turned(s), other.turned(s));
            check.due(where + "listed " + s, one.listed(s), other.listed(s));
        }
        for (int n = -1; n <= 6; n++) {
            check.due(where + "least " + n, one.ends(n, 0), other.ends(n, 0));
            check.due(where + "greatest " + n, one.ends(n, 1), other.ends(n, 1));
            check.due(where + "need " + n, one.need(n), other.need(n));
        }
        for (int what = -1; what < 30; what++) {
            check.due(where + "count " + what, one.count(what), other.count(what));
        }
    }
}
