import java.math.BigDecimal;
import java.math.BigInteger;
import java.util.Arrays;
import java.util.NoSuchElementException;
import java.util.Random;
import java.util.function.Supplier;

/**
 * Long runs of calls, the same in each test run, against a second table that is written in another way: it
 * holds NaN where there is NONE, floats as floats, and writes each comparison out.
 */
public final class ModelTest {
    private static final int RUNS = 3000;
    private static final int CALLS = 512;
    private static final int WRONG_TO_SHOW = 20;
    private static final double[] GREAT = {0x1p55, 0x1p63, 0x1p64, 0x1p110};

    private static int wrong = 0;
    private static long calls = 0;

    public static void main(String[] args) {
        for (int seed = 0; seed < RUNS && wrong < WRONG_TO_SHOW; seed++) {
            oneRun(seed);
        }
        System.out.println(calls + " calls made, " + wrong + " answers wrong");
        if (wrong != 0) {
            System.exit(1);
        }
    }

    private static void oneRun(int seed) {
        Random random = new Random(seed);
        JuryTable table = new JuryTable();
        Model model = new Model();
        int range = 1 + random.nextInt(4);
        int strange = random.nextInt(3) == 0 ? 4 : 40;
        boolean great = random.nextInt(4) == 0;
        for (int i = 0; i < CALLS; i++) {
            calls++;
            if (!oneCall(seed, i, random, () -> number(random, range, great), strange, table, model)) {
                return;
            }
        }
    }

    /** Mostly a number below the bound; now and then one at its edges or far off. */
    private static int pick(Random random, int bound, int strange) {
        if (random.nextInt(strange) != 0) {
            return random.nextInt(bound);
        }
        int[] odd = {-1, -2, bound, bound + 1, Integer.MIN_VALUE, Integer.MAX_VALUE};
        return odd[random.nextInt(odd.length)];
    }

    /** Few numbers, so that values often meet their like; in some runs great ones, too. */
    private static double number(Random random, int range, boolean great) {
        int eighths = random.nextInt(2 * range + 1) - range;
        double plain = eighths == 0 && random.nextBoolean() ? -0.0 : eighths / 8.0;
        return great && random.nextInt(3) != 0 ? plain * GREAT[random.nextInt(GREAT.length)] : plain;
    }

    private static boolean oneCall(int seed, int i, Random random, Supplier<Double> numbers, int strange,
            JuryTable t, Model m) {
        int kind = random.nextInt(i < 3 ? 1 : 30);
        boolean f = random.nextBoolean();
        boolean strict = random.nextBoolean();
        int entries = Math.max(1, m.entries);
        int e = pick(random, entries, strange);
        int e2 = pick(random, entries, strange);
        int s = pick(random, 5, strange);
        int from = pick(random, 6, strange);
        int w = pick(random, 24, strange);
        int how = pick(random, 4, strange);
        int what = pick(random, 5, strange);
        int which = pick(random, 9, strange);
        double v = numbers.get();
        int orNone = random.nextInt(5) == 0 ? -1 : e;
        switch (kind) {
            case 0: return i < 3 || random.nextInt(8) == 0
                    ? same(seed, i, "entry()", t::entry, m::entry) : true;
            case 1: case 2: case 3: case 4: case 5: return f
                    ? same(seed, i, "mark(" + e + ", " + s + ", " + v + ")",
                            () -> done(() -> t.mark(e, s, v)), () -> m.value(true, e, s, v))
                    : same(seed, i, "points(" + e + ", " + s + ", " + v + ")",
                            () -> done(() -> t.points(e, s, (float) v)), () -> m.value(false, e, s, v));
            case 6: case 7: return f
                    ? same(seed, i, "bar(" + s + ", " + v + ")",
                            () -> done(() -> t.bar(s, v)), () -> m.limit(true, s, v))
                    : same(seed, i, "line(" + s + ", " + v + ")",
                            () -> done(() -> t.line(s, (float) v)), () -> m.limit(false, s, v));
            case 8: case 9: return same(seed, i, "clear(" + f + ", " + orNone + ", " + s + ")",
                    () -> t.clear(f, orNone, s), () -> m.clear(f, orNone, s));
            case 10: case 11: return same(seed, i, "holds(" + f + ", " + e + ", " + s + ", " + w + ")",
                    () -> t.holds(f, e, s, w), () -> m.holds(f, e, s, w));
            case 12: case 13: return same(seed, i, "tally(" + f + ", " + e + ", " + w + ")",
                    () -> t.tally(f, e, w), () -> m.tally(f, e, w));
            case 14: case 15: return same(seed, i, "run(" + f + ", " + e + ", " + from + ", " + w + ")",
                    () -> t.run(f, e, from, w), () -> m.run(f, e, from, w));
            case 16: case 17: return same(seed, i, "keep(" + f + ", " + e + ", " + s + ", " + w + ")",
                    () -> t.keep(f, e, s, w), () -> m.keep(f, e, s, w));
            case 18: return same(seed, i, "kept(" + f + ", " + e + ", " + s + ")",
                    () -> t.kept(f, e, s), () -> m.kept(f, e, s));
            case 19: case 20: case 21: return same(seed, i, "place(" + f + ", " + e + ", " + s + ", " + strict + ")",
                    () -> t.place(f, e, s, strict), () -> m.place(f, e, s, strict));
            case 22: case 23: return same(seed, i, "best(" + f + ", " + s + ", " + how + ")",
                    () -> t.best(f, s, how), () -> m.best(f, s, how));
            case 24: case 25: return same(seed, i, "against(" + f + ", " + e + ", " + e2 + ", " + what + ")",
                    () -> t.against(f, e, e2, what), () -> m.against(f, e, e2, what));
            case 26: return same(seed, i, "told(" + f + ", " + orNone + ", " + s + ")",
                    () -> t.told(f, orNone, s), () -> m.told(f, orNone, s));
            case 27: return same(seed, i, "sum(" + f + ", " + e + ")", () -> t.sum(f, e), () -> m.sum(f, e));
            default: return same(seed, i, "count(" + which + ")", () -> t.count(which), () -> m.count(which));
        }
    }

    private static Object done(Runnable call) {
        call.run();
        return "done";
    }

    private static boolean same(int seed, int i, String call, Supplier<Object> got, Supplier<Object> want) {
        Object due = answer(want);
        Object answered = answer(got);
        if (due.equals(answered)) {
            return true;
        }
        wrong++;
        System.out.println("run " + seed + ", call " + i + ": " + call + " answered " + answered
                + ", due is " + due);
        return false;
    }

    private static Object answer(Supplier<Object> call) {
        try {
            return call.get();
        } catch (RuntimeException e) {
            return e.getClass();
        }
    }

    private static final class Model {
        private final double[][] marks = new double[6][5];
        private final float[][] points = new float[6][5];
        private final double[] bars = new double[5];
        private final float[] lines = new float[5];
        private final int[][][] kept = new int[2][6][5];
        private int entries = 0;

        Model() {
            for (int e = 0; e < 6; e++) {
                Arrays.fill(marks[e], Double.NaN);
                Arrays.fill(points[e], Float.NaN);
                Arrays.fill(kept[0][e], -1);
                Arrays.fill(kept[1][e], -1);
            }
            Arrays.fill(bars, Double.NaN);
            Arrays.fill(lines, Float.NaN);
        }

        private void entryThere(int e) {
            if (e < 0 || e >= entries) {
                throw new NoSuchElementException();
            }
        }

        private void within(int s, int last) {
            if (s < 0 || s > last) {
                throw new NoSuchElementException();
            }
        }

        private void argument(int x, int last) {
            if (x < 0 || x > last) {
                throw new IllegalArgumentException();
            }
        }

        Object entry() {
            if (entries == 6) {
                throw new IllegalStateException();
            }
            return entries++;
        }

        Object value(boolean f, int e, int s, double v) {
            entryThere(e);
            within(s, 4);
            if (f) {
                marks[e][s] = v;
            } else {
                points[e][s] = (float) v;
            }
            return "done";
        }

        Object limit(boolean f, int s, double v) {
            within(s, 4);
            if (f) {
                bars[s] = v;
            } else {
                lines[s] = (float) v;
            }
            return "done";
        }

        private double at(boolean f, int e, int s) {
            if (e == -1) {
                return f ? bars[s] : lines[s];
            }
            return f ? marks[e][s] : points[e][s];
        }

        Object clear(boolean f, int e, int s) {
            if (e != -1) {
                entryThere(e);
            }
            within(s, 4);
            boolean was = !Double.isNaN(at(f, e, s));
            if (e == -1) {
                limit(f, s, Double.NaN);
            } else {
                value(f, e, s, Double.NaN);
            }
            return was;
        }

        private boolean fineWay(double v, double b, int w) {
            switch (w) {
                case 0: return v < b;
                case 1: return v <= b;
                case 2: return v > b;
                case 3: return v >= b;
                case 4: return v == b;
                case 5: return v != b;
                case 6: return !(v < b);
                case 7: return !(v <= b);
                case 8: return !(v > b);
                case 9: return !(v >= b);
                case 10: return !(v == b);
                case 11: return !(v != b);
                case 12: return b < v;
                case 13: return b <= v;
                case 14: return b > v;
                case 15: return b >= v;
                case 16: return b == v;
                case 17: return b != v;
                case 18: return !(b < v);
                case 19: return !(b <= v);
                case 20: return !(b > v);
                case 21: return !(b >= v);
                case 22: return !(b == v);
                default: return !(b != v);
            }
        }

        private boolean coarseWay(float v, float b, int w) {
            switch (w) {
                case 0: return v < b;
                case 1: return v <= b;
                case 2: return v > b;
                case 3: return v >= b;
                case 4: return v == b;
                case 5: return v != b;
                case 6: case 7: case 8: case 9: case 10: case 11: return !coarseWay(v, b, w - 6);
                case 12: case 13: case 14: case 15: case 16: case 17: return coarseWay(b, v, w - 12);
                default: return !coarseWay(b, v, w - 18);
            }
        }

        private boolean so(boolean f, int e, int s, int w) {
            return f ? fineWay(marks[e][s], bars[s], w) : coarseWay(points[e][s], lines[s], w);
        }

        Object holds(boolean f, int e, int s, int w) {
            entryThere(e);
            within(s, 4);
            argument(w, 23);
            return so(f, e, s, w);
        }

        Object tally(boolean f, int e, int w) {
            entryThere(e);
            argument(w, 23);
            int n = 0;
            for (int s = 0; s < 5; s++) {
                n += so(f, e, s, w) ? 1 : 0;
            }
            return n;
        }

        Object run(boolean f, int e, int from, int w) {
            entryThere(e);
            within(from, 5);
            argument(w, 23);
            for (int s = from; s < 5; s++) {
                if (!so(f, e, s, w)) {
                    return s;
                }
            }
            return 5;
        }

        Object keep(boolean f, int e, int s, int w) {
            boolean so = (Boolean) holds(f, e, s, w);
            kept[f ? 1 : 0][e][s] = so ? 1 : 0;
            return so;
        }

        Object kept(boolean f, int e, int s) {
            entryThere(e);
            within(s, 4);
            return kept[f ? 1 : 0][e][s];
        }

        Object place(boolean f, int e, int s, boolean strict) {
            entryThere(e);
            within(s, 4);
            java.util.List<Integer> order = new java.util.ArrayList<>();
            for (int next = 0; next < entries; next++) {
                int at = order.size();
                while (at > 0 && (strict ? at(f, order.get(at - 1), s) < at(f, next, s)
                        : !(at(f, order.get(at - 1), s) > at(f, next, s)))) {
                    at--;
                }
                order.add(at, next);
            }
            return order.indexOf(e);
        }

        Object best(boolean f, int s, int how) {
            within(s, 4);
            argument(how, 3);
            int best = entries == 0 ? -1 : 0;
            for (int next = 1; next < entries; next++) {
                double v = at(f, next, s);
                double b = at(f, best, s);
                boolean[] better = {v > b, !(v <= b), !(v < b), v >= b};
                best = better[how] ? next : best;
            }
            return best;
        }

        Object against(boolean f, int a, int b, int what) {
            entryThere(a);
            entryThere(b);
            argument(what, 4);
            int n = 0;
            for (int s = 0; s < 5; s++) {
                double x = at(f, a, s);
                double y = at(f, b, s);
                boolean[] so = {x > y, x < y, x == y, !(x > y || x < y || x == y), !(x > y) && !(x < y)};
                n += so[what] ? 1 : 0;
            }
            return n;
        }

        Object told(boolean f, int e, int s) {
            if (e != -1) {
                entryThere(e);
            }
            within(s, 4);
            if (Double.isNaN(at(f, e, s))) {
                throw new IllegalStateException();
            }
            return (long) (at(f, e, s) * 8);
        }

        Object sum(boolean f, int e) {
            entryThere(e);
            BigDecimal sum = BigDecimal.ZERO;
            for (int s = 0; s < 5; s++) {
                sum = sum.add(Double.isNaN(at(f, e, s)) ? BigDecimal.ZERO : new BigDecimal(at(f, e, s)));
            }
            BigInteger eighths = sum.multiply(BigDecimal.valueOf(8)).toBigInteger();
            if (eighths.bitLength() <= 63) {
                return eighths.longValue();
            }
            return eighths.signum() > 0 ? Long.MAX_VALUE : Long.MIN_VALUE;
        }

        private int numbers(boolean f, int firstEntry, int behind) {
            int n = 0;
            for (int e = firstEntry; e < behind; e++) {
                for (int s = 0; s < 5; s++) {
                    n += Double.isNaN(at(f, e, s)) ? 0 : 1;
                }
            }
            return n;
        }

        private int truths(int truth) {
            int n = 0;
            for (int[][] ofSeats : kept) {
                for (int[] row : ofSeats) {
                    for (int t : row) {
                        n += t == truth ? 1 : 0;
                    }
                }
            }
            return n;
        }

        Object count(int what) {
            argument(what, 8);
            int[] counts = {entries, numbers(true, 0, entries), numbers(false, 0, entries),
                5 * entries - numbers(true, 0, entries), 5 * entries - numbers(false, 0, entries),
                numbers(true, -1, 0), numbers(false, -1, 0), truths(1), truths(0)};
            return counts[what];
        }
    }
}
