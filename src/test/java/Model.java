import java.math.BigInteger;
import java.util.ArrayList;
import java.util.Comparator;
import java.util.List;

/**
 * The document read a second time, without regard to speed: BigIntegers that never run over, LOOPS
 * followed by a counter, nothing kept between two questions.
 */
final class Model {
    static final int NONE = -1;
    static final int NO_VALUE = Integer.MIN_VALUE;

    private record Step(int kind, int target, int a, int b) { }

    /** Told of every STEP as it is done. */
    private interface Doer {
        void does(int number, Step step);
    }

    private final int[] width = {16, 16, 16, 16, 16, 16};
    private final boolean[] signed = {true, true, true, true, true, true};
    private final int[] from = {0, 0};
    private final int[] to = {0, 0};
    private final List<Step> steps = new ArrayList<>();
    private final List<Boolean> meant = new ArrayList<>();
    private int mode = 0;

    boolean name(int name, int w, boolean s) {
        if (name < 0 || name > 5 || w < 2 || w > 31) return false;
        width[name] = w;
        signed[name] = s;
        return true;
    }

    boolean span(int input, int f, int t) {
        if (input != 0 && input != 1) return false;
        long reach = (long) t - f;
        if (f < -100000 || f > 100000 || t < -100000 || t > 100000 || reach < 0 || reach > 31) return false;
        from[input] = f;
        to[input] = t;
        return true;
    }

    int step(int kind, int target, int a, int b) {
        if (steps.size() == 24 || !mayBe(kind, target, a, b)) return NONE;
        steps.add(new Step(kind, target, a, b));
        meant.add(false);
        return steps.size() - 1;
    }

    private boolean mayBe(int kind, int target, int a, int b) {
        boolean targetOk = target >= 0 && target <= 5;
        boolean aOk = a >= 0 && a <= 5;
        boolean bOk = b >= 0 && b <= 5;
        return switch (kind) {
            case 0 -> targetOk && b >= -100000 && b <= 100000;
            case 1 -> targetOk && aOk;
            case 2, 3, 4, 6, 7 -> targetOk && aOk && bOk;
            case 5 -> targetOk && aOk && b >= 0 && b <= 12;
            case 8 -> b >= 1 && b <= 12 && !open();
            case 9 -> open();
            default -> false;
        };
    }

    private boolean open() {
        for (int i = steps.size() - 1; i >= 0; i--) {
            if (steps.get(i).kind() == 9) return false;
            if (steps.get(i).kind() == 8) return true;
        }
        return false;
    }

    boolean back() {
        if (steps.isEmpty()) return false;
        steps.remove(steps.size() - 1);
        meant.remove(meant.size() - 1);
        return true;
    }

    boolean mode(int m) {
        if (m != 0 && m != 1) return false;
        mode = m;
        return true;
    }

    private BigInteger low(int name) {
        return signed[name] ? BigInteger.TWO.pow(width[name] - 1).negate() : BigInteger.ZERO;
    }

    private BigInteger high(int name) {
        return BigInteger.TWO.pow(signed[name] ? width[name] - 1 : width[name]).subtract(BigInteger.ONE);
    }

    private boolean in(int name, BigInteger v) {
        return v.compareTo(low(name)) >= 0 && v.compareTo(high(name)) <= 0;
    }

    private BigInteger put(int name, BigInteger v) {
        if (in(name, v)) return v;
        if (mode == 1) return near(name, v);
        BigInteger circle = BigInteger.TWO.pow(width[name]);
        BigInteger rest = v.mod(circle);
        return in(name, rest) ? rest : rest.subtract(circle);
    }

    private BigInteger near(int name, BigInteger v) {
        return v.compareTo(low(name)) < 0 ? low(name) : v.compareTo(high(name)) > 0 ? high(name) : v;
    }

    private void walk(Doer doer) {
        int loop = -1;
        int left = 0;
        for (int at = 0; at <= steps.size(); at++) {
            boolean ended = at == steps.size() || steps.get(at).kind() == 9;
            if (ended && loop >= 0) {
                left--;
                if (left > 0) {
                    at = loop;
                } else {
                    loop = -1;
                }
            } else if (!ended && steps.get(at).kind() == 8) {
                loop = at;
                left = steps.get(at).b();
            } else if (!ended) {
                doer.does(at, steps.get(at));
            }
        }
    }

    private static BigInteger big(long v) {
        return BigInteger.valueOf(v);
    }

    private static BigInteger worth(Step s, BigInteger[] v) {
        return switch (s.kind()) {
            case 0 -> big(s.b());
            case 1 -> v[s.a()];
            case 2 -> v[s.a()].add(v[s.b()]);
            case 3 -> v[s.a()].subtract(v[s.b()]);
            case 4 -> v[s.a()].multiply(v[s.b()]);
            case 5 -> v[s.a()].multiply(BigInteger.TWO.pow(s.b()));
            case 6 -> v[s.a()].min(v[s.b()]);
            default -> v[s.a()].compareTo(v[s.b()]) < 0 ? BigInteger.ONE : BigInteger.ZERO;
        };
    }

    private BigInteger[] start(BigInteger x, BigInteger y) {
        return new BigInteger[] {x, y, big(0), big(0), big(0), big(0)};
    }

    /** One RUN: its values at the end, which STEPS went over in the order of their first time, which were TURNED. */
    private final class Run {
        final BigInteger[] v;
        final List<Integer> overs = new ArrayList<>();
        final List<Integer> turns = new ArrayList<>();

        Run(int x, int y) {
            v = start(put(0, big(x)), put(1, big(y)));
            walk(this::does);
        }

        private void does(int number, Step s) {
            BigInteger w = worth(s, v);
            if (s.kind() == 7 && signed[s.a()] != signed[s.b()]) {
                BigInteger circle = BigInteger.TWO.pow(Math.max(width[s.a()], width[s.b()]));
                boolean below = v[s.a()].mod(circle).compareTo(v[s.b()].mod(circle)) < 0;
                BigInteger answer = below ? BigInteger.ONE : BigInteger.ZERO;
                if (!answer.equals(w) && !turns.contains(number)) turns.add(number);
                w = answer;
            }
            if (!in(s.target(), w) && !overs.contains(number)) overs.add(number);
            v[s.target()] = put(s.target(), w);
        }
    }

    private boolean isRun(int x, int y) {
        return x >= from[0] && x <= to[0] && y >= from[1] && y <= to[1];
    }

    int run(int x, int y, int name) {
        return name < 0 || name > 5 || !isRun(x, y) ? NO_VALUE : new Run(x, y).v[name].intValueExact();
    }

    int first(int x, int y) {
        if (!isRun(x, y)) return NONE;
        Run r = new Run(x, y);
        return r.overs.isEmpty() ? NONE : r.overs.get(0);
    }

    private List<Run> allRuns() {
        List<Run> all = new ArrayList<>();
        for (int x = from[0]; x <= to[0]; x++) {
            for (int y = from[1]; y <= to[1]; y++) all.add(new Run(x, y));
        }
        return all;
    }

    private boolean isStep(int step) {
        return step >= 0 && step < steps.size();
    }

    int over(int step) {
        return isStep(step) ? (int) allRuns().stream().filter(r -> r.overs.contains(step)).count() : NONE;
    }

    int turned(int step) {
        if (!isStep(step) || steps.get(step).kind() != 7) return NONE;
        return (int) allRuns().stream().filter(r -> r.turns.contains(step)).count();
    }

    int shown(int step) {
        for (int x = from[0]; x <= to[0]; x++) {
            for (int y = from[1]; y <= to[1]; y++) {
                if (new Run(x, y).overs.contains(step)) return 32 * (x - from[0]) + (y - from[1]);
            }
        }
        return NONE;
    }

    /** The ends of all NAMES by SPANS, and which STEPS COULD go over. */
    private final class Reach {
        final BigInteger[] low = start(big(from[0]), big(from[1]));
        final BigInteger[] high = start(big(to[0]), big(to[1]));
        final boolean[] could = new boolean[24];

        Reach() {
            settle(0, low[0], high[0]);
            settle(1, low[1], high[1]);
            walk(this::does);
        }

        private boolean settle(int name, BigInteger l, BigInteger h) {
            boolean fits = in(name, l) && in(name, h);
            low[name] = fits ? l : mode == 0 ? low(name) : near(name, l);
            high[name] = fits ? h : mode == 0 ? high(name) : near(name, h);
            return fits;
        }

        private void does(int number, Step s) {
            List<BigInteger> seen = new ArrayList<>();
            if (s.kind() == 7) {
                boolean like = signed[s.a()] == signed[s.b()];
                if (!(like && high[s.a()].compareTo(low[s.b()]) < 0)) seen.add(BigInteger.ZERO);
                if (!(like && low[s.a()].compareTo(high[s.b()]) >= 0)) seen.add(BigInteger.ONE);
            } else {
                corners(s, seen);
            }
            BigInteger l = seen.stream().min(Comparator.naturalOrder()).get();
            BigInteger h = seen.stream().max(Comparator.naturalOrder()).get();
            if (!settle(s.target(), l, h)) could[number] = true;
        }

        /** Every other KIND has its least and its greatest at corners of the two spans. */
        private void corners(Step s, List<BigInteger> seen) {
            for (int corner = 0; corner < 4; corner++) {
                BigInteger[] one = new BigInteger[2];
                one[0] = s.kind() == 0 ? big(0) : (corner & 1) == 0 ? low[s.a()] : high[s.a()];
                boolean named = s.kind() != 0 && s.kind() != 1 && s.kind() != 5;
                one[1] = !named ? big(0) : (corner & 2) == 0 ? low[s.b()] : high[s.b()];
                seen.add(worth(new Step(s.kind(), 0, 0, named ? 1 : s.b()), one));
            }
        }
    }

    int judge(int step) {
        if (!isStep(step)) return NONE;
        if (!new Reach().could[step]) return 0;
        int times = over(step);
        return times == 0 ? 1 : times == count(1) ? 3 : 2;
    }

    int ends(int name, int what) {
        if (name < 0 || name > 5 || what < 0 || what > 1) return NO_VALUE;
        Reach r = new Reach();
        return (what == 0 ? r.low[name] : r.high[name]).intValueExact();
    }

    int need(int name) {
        if (name < 0 || name > 5) return NONE;
        List<BigInteger> given = new ArrayList<>();
        boolean[] far = {false};
        for (int x = from[0]; x <= to[0] && !far[0]; x++) {
            for (int y = from[1]; y <= to[1] && !far[0]; y++) trueRun(x, y, name, given, far);
        }
        if (far[0]) return NONE;
        int kept = width[name];
        int found = NONE;
        for (int w = 31; w >= 2; w--) {
            width[name] = w;
            if (given.stream().allMatch(v -> in(name, v))) found = w;
        }
        width[name] = kept;
        return found;
    }

    private void trueRun(int x, int y, int name, List<BigInteger> given, boolean[] far) {
        BigInteger[] v = start(big(x), big(y));
        given.add(v[name]);
        walk((number, s) -> {
            if (far[0]) return;
            v[s.target()] = worth(s, v);
            if (v[s.target()].abs().compareTo(BigInteger.TWO.pow(40)) > 0) far[0] = true;
            if (s.target() == name) given.add(v[name]);
        });
    }

    int price() {
        int bits = 0;
        for (int n = 0; n < 6; n++) {
            int need = need(n);
            if (need == NONE) return NONE;
            bits += need > width[n] ? need - width[n] : 0;
        }
        return bits;
    }

    int mend() {
        if (price() == NONE) return NONE;
        int mended = 0;
        for (int n = 0; n < 6; n++) {
            int need = need(n);
            if (need > width[n]) {
                width[n] = need;
                mended++;
            }
        }
        return mended;
    }

    boolean mean(int step, boolean is) {
        if (!isStep(step) || meant.get(step) == is) return false;
        meant.set(step, is);
        return true;
    }

    int listed(int i) {
        List<Integer> list = new ArrayList<>();
        for (int s = 0; s < steps.size(); s++) {
            if (!meant.get(s) && judge(s) >= 2) list.add(s);
        }
        list.sort(Comparator.comparingInt((Integer s) -> -over(s)).thenComparingInt(s -> s));
        return i >= 0 && i < list.size() ? list.get(i) : NONE;
    }

    int count(int what) {
        if (what >= 10 && what <= 15) return width[what - 10];
        if (what >= 20 && what <= 25) return signed[what - 20] ? 1 : 0;
        return switch (what) {
            case 0 -> steps.size();
            case 1 -> (to[0] - from[0] + 1) * (to[1] - from[1] + 1);
            case 2 -> (int) allRuns().stream().filter(r -> !r.overs.isEmpty()).count();
            case 3 -> (int) meant.stream().filter(m -> m).count();
            case 4 -> mode;
            default -> NONE;
        };
    }
}
