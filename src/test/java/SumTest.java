import java.math.BigDecimal;
import java.math.BigInteger;
import java.util.Arrays;
import java.util.Random;

/**
 * Promise 17 against sums of decimals that lose nothing: values from the least to the greatest, the same in
 * each test run, among them many that nearly or wholly stand against each other.
 */
public final class SumTest {
    private static final int RUNS = 20000;
    private static final int SEATS = 5;
    private static final int WRONG_TO_SHOW = 20;

    private static int wrong = 0;
    private static int held = 0;

    public static void main(String[] args) {
        Random random = new Random(17);
        for (int run = 0; run < RUNS && wrong < WRONG_TO_SHOW; run++) {
            oneRow(true, shuffled(random, marks(random)));
            oneRow(false, shuffled(random, points(random)));
        }
        System.out.println(2 * RUNS + " sums asked for, a long holds " + held + " of them, " + wrong + " wrong");
        if (wrong != 0) {
            System.exit(1);
        }
    }

    private static double[] marks(Random random) {
        double[] row = new double[SEATS];
        for (int seat = 0; seat < SEATS; seat++) {
            row[seat] = seat > 0 && random.nextInt(3) != 0 ? -nextTo(random, partOf(random, row, seat))
                    : someMark(random);
        }
        return row;
    }

    private static double[] points(Random random) {
        double[] row = marks(random);
        for (int seat = 0; seat < SEATS; seat++) {
            boolean fits = Math.abs(row[seat]) <= Float.MAX_VALUE;
            row[seat] = (float) (fits ? row[seat] : Math.signum(row[seat]) * 0x1p120 * random.nextInt(3));
        }
        return row;
    }

    /** One of the values before this seat, or what doubles make of two of them. */
    private static double partOf(Random random, double[] row, int seat) {
        double sum = row[random.nextInt(seat)] + (random.nextBoolean() ? row[random.nextInt(seat)] : 0.0);
        return Double.isInfinite(sum) ? row[0] : sum;
    }

    private static double nextTo(Random random, double v) {
        switch (random.nextInt(6)) {
            case 0: return Math.abs(v) < Double.MAX_VALUE ? Math.nextUp(v) : v;
            case 1: return Math.abs(v) < Double.MAX_VALUE ? Math.nextDown(v) : v;
            default: return v;
        }
    }

    private static double someMark(Random random) {
        double part = random.nextBoolean() ? 1.0 : 1.0 + random.nextInt(1 << 20) * 0x1p-20;
        double sign = random.nextBoolean() ? 1.0 : -1.0;
        switch (random.nextInt(8)) {
            case 0: return sign * random.nextInt(100) / 8.0;
            case 1: return sign * random.nextDouble();
            case 2: return sign * Double.MIN_VALUE * random.nextInt(5);
            case 3: return sign * Double.MAX_VALUE;
            case 4: return sign * Math.scalb(part, random.nextInt(2000) - 1000);
            default: return sign * Math.scalb(part, 40 + random.nextInt(30));
        }
    }

    private static double[] shuffled(Random random, double[] row) {
        for (int seat = SEATS - 1; seat > 0; seat--) {
            int other = random.nextInt(seat + 1);
            double kept = row[seat];
            row[seat] = row[other];
            row[other] = kept;
        }
        return row;
    }

    private static void oneRow(boolean fine, double[] row) {
        JuryTable x = new JuryTable();
        x.entry();
        BigDecimal sum = BigDecimal.ZERO;
        for (int seat = 0; seat < SEATS; seat++) {
            sum = sum.add(new BigDecimal(row[seat]));
            if (fine) {
                x.mark(0, seat, row[seat]);
            } else {
                x.points(0, seat, (float) row[seat]);
            }
        }
        long want = eighths(sum);
        long got = x.sum(fine, 0);
        if (got != want) {
            wrong++;
            System.out.println("sum(" + fine + ", 0) of " + Arrays.toString(row) + " answered " + got
                    + ", due is " + want);
        }
    }

    private static long eighths(BigDecimal sum) {
        BigInteger whole = sum.multiply(BigDecimal.valueOf(8)).toBigInteger();
        if (whole.bitLength() <= 63) {
            held++;
            return whole.longValue();
        }
        return whole.signum() > 0 ? Long.MAX_VALUE : Long.MIN_VALUE;
    }
}
