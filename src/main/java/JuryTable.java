import java.util.Arrays;
import java.util.NoSuchElementException;

/** A jury's table: values of entries at seats, compared with limits, where each of them may be missing. */
public final class JuryTable {
    public static final int NONE = -1;

    private static final int MAX_ENTRIES = 6;
    private static final int SEATS = 5;
    private static final int LIMIT_ROW = MAX_ENTRIES;
    private static final int CELLS = (MAX_ENTRIES + 1) * SEATS;

    private static final int WAYS = 24;
    private static final int PLAIN_WAYS = 6;

    private static final int LESS = 0;
    private static final int EQUAL = 1;
    private static final int GREATER = 2;
    private static final int APART = 3;

    private static final int HOWS = 4;
    private static final int AGAINST_KINDS = 5;
    private static final int COUNT_KINDS = 9;

    private final Panel judges;
    private final Panel scorers;
    private final Total total;
    private int entries;

    public JuryTable() {
        judges = new Panel();
        scorers = new Panel();
        total = new Total();
        entries = 0;
    }

    public int entry() throws IllegalStateException {
        if (entries >= MAX_ENTRIES) {
            throw new IllegalStateException("all entries have come");
        }
        int number = entries;
        entries++;
        return number;
    }

    public void mark(int entry, int judge, double v) throws NoSuchElementException {
        requireEntry(entry);
        requireSeat(judge);
        judges.writeDouble(cellOf(entry, judge), v);
    }

    public void points(int entry, int scorer, float v) throws NoSuchElementException {
        requireEntry(entry);
        requireSeat(scorer);
        scorers.writeFloat(cellOf(entry, scorer), v);
    }

    public void bar(int judge, double v) throws NoSuchElementException {
        requireSeat(judge);
        judges.writeDouble(cellOf(LIMIT_ROW, judge), v);
    }

    public void line(int scorer, float v) throws NoSuchElementException {
        requireSeat(scorer);
        scorers.writeFloat(cellOf(LIMIT_ROW, scorer), v);
    }

    public boolean clear(boolean fine, int entry, int seat) throws NoSuchElementException {
        requireEntryOrNone(entry);
        requireSeat(seat);
        return panel(fine).erase(cellOf(rowOf(entry), seat));
    }

    public boolean holds(boolean fine, int entry, int seat, int way)
            throws NoSuchElementException, IllegalArgumentException {
        requireEntry(entry);
        requireSeat(seat);
        requireBelow(way, WAYS);
        return panel(fine).isSo(entry, seat, way);
    }

    public int tally(boolean fine, int entry, int way) throws NoSuchElementException, IllegalArgumentException {
        requireEntry(entry);
        requireBelow(way, WAYS);
        return panel(fine).seatsWhereSo(entry, way);
    }

    public int run(boolean fine, int entry, int from, int way)
            throws NoSuchElementException, IllegalArgumentException {
        requireEntry(entry);
        // Behind all seats is a place to start from, too.
        if (from != SEATS) {
            requireSeat(from);
        }
        requireBelow(way, WAYS);
        return panel(fine).stopOf(entry, from, way);
    }

    public boolean keep(boolean fine, int entry, int seat, int way)
            throws NoSuchElementException, IllegalArgumentException {
        requireEntry(entry);
        requireSeat(seat);
        requireBelow(way, WAYS);
        return panel(fine).keepTruth(entry, seat, way);
    }

    public int kept(boolean fine, int entry, int seat) throws NoSuchElementException {
        requireEntry(entry);
        requireSeat(seat);
        return panel(fine).truthAt(cellOf(entry, seat));
    }

    public int place(boolean fine, int entry, int seat, boolean strict) throws NoSuchElementException {
        requireEntry(entry);
        requireSeat(seat);
        return panel(fine).placeOf(entry, seat, strict, entries);
    }

    public int best(boolean fine, int seat, int how) throws NoSuchElementException, IllegalArgumentException {
        requireSeat(seat);
        requireBelow(how, HOWS);
        return panel(fine).bestOf(entries, seat, how);
    }

    public int against(boolean fine, int a, int b, int what)
            throws NoSuchElementException, IllegalArgumentException {
        requireEntry(a);
        requireEntry(b);
        requireBelow(what, AGAINST_KINDS);
        return panel(fine).seatsAgainst(a, b, what);
    }

    public long told(boolean fine, int entry, int seat) throws NoSuchElementException, IllegalStateException {
        requireEntryOrNone(entry);
        requireSeat(seat);
        int cell = cellOf(rowOf(entry), seat);
        Panel panel = panel(fine);
        if (!panel.isNumber(cell)) {
            throw new IllegalStateException("it is NONE");
        }
        return panel.eighthsAt(cell);
    }

    public long sum(boolean fine, int entry) throws NoSuchElementException {
        requireEntry(entry);
        return panel(fine).sumOfEighths(entry, total);
    }

    public int count(int what) throws IllegalArgumentException {
        requireBelow(what, COUNT_KINDS);
        switch (what) {
            case 0: return entries;
            case 1: return judges.numbersOfEntries();
            case 2: return scorers.numbersOfEntries();
            case 3: return entries * SEATS - judges.numbersOfEntries();
            case 4: return entries * SEATS - scorers.numbersOfEntries();
            case 5: return judges.numbersOfLimits();
            case 6: return scorers.numbersOfLimits();
            case 7: return judges.truthsLike(1) + scorers.truthsLike(1);
            default: return judges.truthsLike(0) + scorers.truthsLike(0);
        }
    }

    private Panel panel(boolean fine) {
        return fine ? judges : scorers;
    }

    private void requireEntry(int entry) {
        if (entry < 0 || entry >= entries) {
            throw new NoSuchElementException("no such entry");
        }
    }

    private void requireEntryOrNone(int entry) {
        if (entry != NONE) {
            requireEntry(entry);
        }
    }

    private static void requireSeat(int seat) {
        if (seat < 0 || seat >= SEATS) {
            throw new NoSuchElementException("no such seat");
        }
    }

    private static void requireBelow(int choice, int choices) {
        if (choice < 0 || choice >= choices) {
            throw new IllegalArgumentException("no such choice");
        }
    }

    private static int rowOf(int entryOrNone) {
        return entryOrNone == NONE ? LIMIT_ROW : entryOrNone;
    }

    private static int cellOf(int row, int seat) {
        return row * SEATS + seat;
    }

    /**
     * The values, limits and kept truths of one kind of seats. Floats are held as doubles: each float is a
     * double, too, and they compare alike. Its callers have tested every entry, seat and choice.
     */
    private static final class Panel {
        private final double[] numbers;
        private final boolean[] given;
        private final int[] truths;
        private final int[] order;

        Panel() {
            numbers = new double[CELLS];
            given = new boolean[CELLS];
            truths = new int[MAX_ENTRIES * SEATS];
            order = new int[MAX_ENTRIES];
            Arrays.fill(truths, NONE);
        }

        void writeDouble(int cell, double v) {
            // What does not equal itself is no number, and that is what NONE is.
            given[cell] = v == v;
            numbers[cell] = v == v ? v : 0.0;
        }

        void writeFloat(int cell, float v) {
            // Tested as a float, so that no cast ever answers what is no number.
            if (v == v) {
                writeDouble(cell, (double) v);
            } else {
                erase(cell);
            }
        }

        boolean erase(int cell) {
            boolean was = given[cell];
            given[cell] = false;
            return was;
        }

        boolean isNumber(int cell) {
            return given[cell];
        }

        boolean isSo(int entry, int seat, int way) {
            int value = cellOf(entry, seat);
            int limit = cellOf(LIMIT_ROW, seat);
            int kind = way / PLAIN_WAYS;
            boolean limitOnTheLeft = kind >= 2;
            boolean denied = kind % 2 == 1;
            int relation = limitOnTheLeft ? relation(limit, value) : relation(value, limit);
            return isPlainWaySo(relation, way % PLAIN_WAYS) != denied;
        }

        private static boolean isPlainWaySo(int relation, int plainWay) {
            switch (plainWay) {
                case 0: return relation == LESS;
                case 1: return relation == LESS || relation == EQUAL;
                case 2: return relation == GREATER;
                case 3: return relation == GREATER || relation == EQUAL;
                case 4: return relation == EQUAL;
                default: return relation != EQUAL;
            }
        }

        private int relation(int left, int right) {
            if (!given[left] || !given[right]) {
                return APART;
            }
            if (numbers[left] < numbers[right]) {
                return LESS;
            }
            return numbers[left] > numbers[right] ? GREATER : EQUAL;
        }

        int seatsWhereSo(int entry, int way) {
            int seats = 0;
            for (int seat = 0; seat < SEATS; seat++) {
                if (isSo(entry, seat, way)) {
                    seats++;
                }
            }
            return seats;
        }

        int stopOf(int entry, int from, int way) {
            int seat = from;
            while (seat < SEATS && isSo(entry, seat, way)) {
                seat++;
            }
            return seat;
        }

        boolean keepTruth(int entry, int seat, int way) {
            boolean so = isSo(entry, seat, way);
            truths[cellOf(entry, seat)] = so ? 1 : 0;
            return so;
        }

        int truthAt(int cell) {
            return truths[cell];
        }

        int truthsLike(int truth) {
            int alike = 0;
            for (int kept : truths) {
                if (kept == truth) {
                    alike++;
                }
            }
            return alike;
        }

        int placeOf(int entry, int seat, boolean strict, int entries) {
            for (int next = 0; next < entries; next++) {
                lineUp(next, seat, strict);
            }
            int place = 0;
            while (place < entries && order[place] != entry) {
                place++;
            }
            return place;
        }

        /** One by one, as told: where values are missing, other ways to sort give other orders. */
        private void lineUp(int next, int seat, boolean strict) {
            int place = next;
            while (place > 0 && goesAhead(order[place - 1], next, seat, strict)) {
                order[place] = order[place - 1];
                place--;
            }
            order[place] = next;
        }

        private boolean goesAhead(int ahead, int next, int seat, boolean strict) {
            int relation = relation(cellOf(ahead, seat), cellOf(next, seat));
            return strict ? relation == LESS : relation != GREATER;
        }

        int bestOf(int entries, int seat, int how) {
            if (entries == 0) {
                return NONE;
            }
            int best = 0;
            for (int next = 1; next < entries; next++) {
                if (isBetter(relation(cellOf(next, seat), cellOf(best, seat)), how)) {
                    best = next;
                }
            }
            return best;
        }

        private static boolean isBetter(int relation, int how) {
            switch (how) {
                case 0: return relation == GREATER;
                case 1: return relation != LESS && relation != EQUAL;
                case 2: return relation != LESS;
                default: return relation == GREATER || relation == EQUAL;
            }
        }

        int seatsAgainst(int a, int b, int what) {
            int seats = 0;
            for (int seat = 0; seat < SEATS; seat++) {
                if (isAgainst(relation(cellOf(a, seat), cellOf(b, seat)), what)) {
                    seats++;
                }
            }
            return seats;
        }

        private static boolean isAgainst(int relation, int what) {
            switch (what) {
                case 0: return relation == GREATER;
                case 1: return relation == LESS;
                case 2: return relation == EQUAL;
                case 3: return relation == APART;
                default: return relation == EQUAL || relation == APART;
            }
        }

        long eighthsAt(int cell) {
            return (long) (numbers[cell] * 8.0);
        }

        long sumOfEighths(int entry, Total total) {
            total.restart();
            for (int seat = 0; seat < SEATS; seat++) {
                int cell = cellOf(entry, seat);
                if (given[cell]) {
                    total.include(numbers[cell]);
                }
            }
            return total.wholeEighths();
        }

        int numbersOfEntries() {
            return numbersAmong(0, cellOf(LIMIT_ROW, 0));
        }

        int numbersOfLimits() {
            return numbersAmong(cellOf(LIMIT_ROW, 0), CELLS);
        }

        private int numbersAmong(int firstCell, int behindLast) {
            int found = 0;
            for (int cell = firstCell; cell < behindLast; cell++) {
                if (given[cell]) {
                    found++;
                }
            }
            return found;
        }
    }

    /**
     * A sum that loses nothing of what it is made of: values that no long holds may stand against each other
     * and leave a sum that a long does hold. It has digits of 51 bits each. Digit 0 counts the least double
     * that there is, 2 to the power of -1074, and with 51 bits a digit it is eighths that digit 21 counts.
     */
    private static final class Total {
        private static final int DIGIT_BITS = 51;
        private static final long DIGIT_MASK = (1L << DIGIT_BITS) - 1L;
        private static final int EIGHTHS_DIGIT = 21;
        private static final int TOP_DIGIT = 41;

        /** More than the numbers that have an end can bring to the top digit together. */
        private static final long ENDLESS = 1L << 20;

        private static final int LONG_BITS = 63;
        private static final long LEAST_LONG = 1L << LONG_BITS;
        private static final long GREATEST_LONG = ~LEAST_LONG;

        private final long[] digits;

        Total() {
            digits = new long[TOP_DIGIT + 1];
        }

        void restart() {
            Arrays.fill(digits, 0L);
        }

        void include(double number) {
            if (number > 0x1.fffffffffffffp1023) {
                digits[TOP_DIGIT] += ENDLESS;
            } else if (number < -0x1.fffffffffffffp1023) {
                digits[TOP_DIGIT] -= ENDLESS;
            } else if (number > -0x1p48 && number < 0x1p48) {
                // Most numbers are small: this spares them the digits that are 0.
                takeApart(number, EIGHTHS_DIGIT, 0x1p-3);
            } else {
                takeApart(number, TOP_DIGIT, 0x1p1017);
            }
        }

        /** Units are powers of 2, so no step rounds. */
        private void takeApart(double number, int firstDigit, double firstUnit) {
            double left = number;
            double unit = firstUnit;
            for (int digit = firstDigit; digit >= 0 && left != 0.0; digit--) {
                long units = (long) (left / unit);
                digits[digit] += units;
                left -= (double) units * unit;
                unit *= 0x1p-51;
            }
        }

        /** A sum drops its rest as a single value does, towards 0, and stops at a long's ends as that does. */
        long wholeEighths() {
            carry();
            boolean belowZero = digits[TOP_DIGIT] < 0L;
            if (belowZero) {
                turnSign();
                carry();
            }
            if (isBeyondLong()) {
                return belowZero ? LEAST_LONG : GREATEST_LONG;
            }
            long eighths = (digits[EIGHTHS_DIGIT + 1] << DIGIT_BITS) + digits[EIGHTHS_DIGIT];
            return belowZero ? -eighths : eighths;
        }

        /** Behind it only the top digit may be less than 0, and then the sum is. */
        private void carry() {
            for (int digit = 0; digit < TOP_DIGIT; digit++) {
                digits[digit + 1] += digits[digit] >> DIGIT_BITS;
                digits[digit] &= DIGIT_MASK;
            }
        }

        private void turnSign() {
            for (int digit = 0; digit <= TOP_DIGIT; digit++) {
                digits[digit] = -digits[digit];
            }
        }

        private boolean isBeyondLong() {
            boolean beyond = digits[EIGHTHS_DIGIT + 1] >> (LONG_BITS - DIGIT_BITS) != 0L;
            for (int digit = EIGHTHS_DIGIT + 2; digit <= TOP_DIGIT; digit++) {
                beyond = beyond || digits[digit] != 0L;
            }
            return beyond;
        }
    }
}
