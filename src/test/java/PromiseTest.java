import java.util.Arrays;
import java.util.NoSuchElementException;
import java.util.function.Supplier;

/** One test a promise of the document: ordinary inputs, the edges, and wrong inputs. */
public final class PromiseTest {
    private static final int NONE = JuryTable.NONE;
    private static final boolean[] BOTH = {true, false};
    private static final int MIN = Integer.MIN_VALUE;
    private static final int MAX = Integer.MAX_VALUE;
    private static final Class<?> NO_SUCH = NoSuchElementException.class;
    private static final Class<?> ARGUMENT = IllegalArgumentException.class;
    private static final Class<?> STATE = IllegalStateException.class;

    private static int wrong = 0;
    private static int looked = 0;
    private static String part = "";

    public static void main(String[] args) {
        part = "promise 1"; newObject();
        part = "promise 2"; entry();
        part = "promise 3"; mark();
        part = "promise 4"; points();
        part = "promise 5"; bar();
        part = "promise 6"; line();
        part = "promise 7"; clear();
        part = "promise 8"; holds();
        part = "promise 9"; tally();
        part = "promise 10"; run();
        part = "promise 11"; keep();
        part = "promise 12"; kept();
        part = "promise 13"; place();
        part = "promise 14"; best();
        part = "promise 15"; against();
        part = "promise 16"; told();
        part = "promise 17"; sum();
        part = "promise 18"; count();
        System.out.println(looked + " answers looked at, " + wrong + " of them wrong");
        if (wrong != 0) {
            System.exit(1);
        }
    }

    // What the tests are made of

    private static void due(String call, Object want, Object got) {
        looked++;
        if (!want.equals(got)) {
            wrong++;
            System.out.println(part + ": " + call + " answered " + got + ", due is " + want);
        }
    }

    private static Object answer(Supplier<Object> call) {
        try {
            return call.get();
        } catch (RuntimeException e) {
            return e.getClass();
        }
    }

    /** That nothing changes where a call throws is looked at by BoundaryTest. */
    private static void refused(String call, Class<?> want, Supplier<Object> made) {
        due(call, want, answer(made));
    }

    private static JuryTable withEntries(int entries) {
        JuryTable x = new JuryTable();
        for (int i = 0; i < entries; i++) {
            x.entry();
        }
        return x;
    }

    private static void value(JuryTable x, boolean fine, int entry, int seat, double v) {
        if (fine) {
            x.mark(entry, seat, v);
        } else {
            x.points(entry, seat, (float) v);
        }
    }

    private static void limit(JuryTable x, boolean fine, int seat, double v) {
        if (fine) {
            x.bar(seat, v);
        } else {
            x.line(seat, (float) v);
        }
    }

    /** A row of values of entry 0, 1, .. at one seat; null is NONE. */
    private static JuryTable column(boolean fine, int seat, Double... values) {
        JuryTable x = withEntries(values.length);
        for (int i = 0; i < values.length; i++) {
            if (values[i] != null) {
                value(x, fine, i, seat, values[i]);
            }
        }
        return x;
    }

    /** A row of values of one entry at seat 0, 1, ..; null is NONE. */
    private static void row(JuryTable x, boolean fine, int entry, Double... values) {
        for (int seat = 0; seat < values.length; seat++) {
            if (values[seat] != null) {
                value(x, fine, entry, seat, values[seat]);
            }
        }
    }

    private static String counts(JuryTable x) {
        int[] counts = new int[9];
        for (int what = 0; what < counts.length; what++) {
            counts[what] = x.count(what);
        }
        return Arrays.toString(counts);
    }

    // Promise 1

    private static void newObject() {
        due("NONE", -1, JuryTable.NONE);
        JuryTable x = new JuryTable();
        due("the counts of a new object", "[0, 0, 0, 0, 0, 0, 0, 0, 0]", counts(x));
        for (boolean fine : BOTH) {
            for (int seat = 0; seat < 5; seat++) {
                final int s = seat;
                due("told() of a limit", STATE, answer(() -> x.told(fine, NONE, s)));
                due("best()", NONE, x.best(fine, seat, 0));
            }
            due("sum() of entry 0", NO_SUCH, answer(() -> x.sum(fine, 0)));
        }
        x.entry();
        x.bar(0, 1);
        due("the counts of another object", "[0, 0, 0, 0, 0, 0, 0, 0, 0]", counts(new JuryTable()));
    }

    // Promise 2

    private static void entry() {
        JuryTable x = new JuryTable();
        for (int i = 0; i < 6; i++) {
            due("entry()", i, x.entry());
            due("count(0)", i + 1, x.count(0));
            for (boolean fine : BOTH) {
                for (int seat = 0; seat < 5; seat++) {
                    final int e = i;
                    final int s = seat;
                    due("told() of a new entry", STATE, answer(() -> x.told(fine, e, s)));
                    due("kept() of a new entry", NONE, x.kept(fine, e, s));
                }
            }
        }
        refused("entry() of a seventh", STATE, x::entry);
        refused("entry() once more", STATE, x::entry);
    }

    // Promises 3 and 4

    private static Object marked(JuryTable x, boolean fine, int entry, int seat, double v) {
        return answer(() -> {
            value(x, fine, entry, seat, v);
            return "done";
        });
    }

    private static void mark() {
        values(true);
        JuryTable x = withEntries(1);
        x.mark(0, 0, 0.1);
        x.bar(0, 0.1f);
        due("0.1 against 0.1f as doubles", false, x.holds(true, 0, 0, 4));
        x.mark(0, 0, Double.NaN);
        due("a mark that is no number", STATE, answer(() -> x.told(true, 0, 0)));
    }

    private static void points() {
        values(false);
        JuryTable x = withEntries(1);
        x.points(0, 0, 16777217);
        x.line(0, 16777216);
        due("floats that are alike", true, x.holds(false, 0, 0, 4));
        x.points(0, 0, Float.NaN);
        due("points that are no number", STATE, answer(() -> x.told(false, 0, 0)));
    }

    private static void values(boolean fine) {
        JuryTable x = withEntries(2);
        for (int entry = 0; entry < 2; entry++) {
            for (int seat = 0; seat < 5; seat++) {
                value(x, fine, entry, seat, entry + seat / 8.0);
            }
        }
        for (int entry = 0; entry < 2; entry++) {
            for (int seat = 0; seat < 5; seat++) {
                final int e = entry;
                final int s = seat;
                due("told() of what was given", 8L * entry + seat, x.told(fine, entry, seat));
                due("told() of the other seats", STATE, answer(() -> x.told(!fine, e, s)));
            }
        }
        value(x, fine, 1, 4, -2.5);
        due("told() of what was given last", -20L, x.told(fine, 1, 4));
        due("counts behind ten values", fine ? 10 : 0, x.count(1));
        due("limits behind ten values", 0, x.count(5) + x.count(6));
        for (int entry : new int[] {NONE, 2, 5, 6, MIN, MAX}) {
            refused("a value of entry " + entry, NO_SUCH, () -> marked(x, fine, entry, 0, 1));
        }
        for (int seat : new int[] {-1, 5, 6, MIN, MAX}) {
            refused("a value at seat " + seat, NO_SUCH, () -> marked(x, fine, 0, seat, 1));
        }
    }

    // Promises 5 and 6

    private static Object limited(JuryTable x, boolean fine, int seat, double v) {
        return answer(() -> {
            limit(x, fine, seat, v);
            return "done";
        });
    }

    private static void bar() {
        limits(true);
        JuryTable x = withEntries(0);
        x.bar(0, Double.NaN);
        due("a bar that is no number", 0, x.count(5));
    }

    private static void line() {
        limits(false);
        JuryTable x = withEntries(0);
        x.line(0, Float.NaN);
        due("a line that is no number", 0, x.count(6));
    }

    private static void limits(boolean fine) {
        JuryTable x = new JuryTable();
        for (int seat = 0; seat < 5; seat++) {
            limit(x, fine, seat, 1 + seat / 8.0);
        }
        for (int seat = 0; seat < 5; seat++) {
            final int s = seat;
            due("told() of a limit", 8L + seat, x.told(fine, NONE, seat));
            due("told() of the other limit", STATE, answer(() -> x.told(!fine, NONE, s)));
        }
        limit(x, fine, 0, -0.125);
        due("told() of the limit given last", -1L, x.told(fine, NONE, 0));
        for (int seat : new int[] {-1, 5, 6, MIN, MAX}) {
            refused("a limit of seat " + seat, NO_SUCH, () -> limited(x, fine, seat, 1));
        }
        x.entry();
        due("a limit is no value", STATE, answer(() -> x.told(fine, 0, 0)));
        due("a value without a number", false, x.holds(fine, 0, 0, 4));
    }

    // Promise 7

    private static void clear() {
        for (boolean fine : BOTH) {
            JuryTable x = withEntries(6);
            for (int seat = 0; seat < 5; seat++) {
                limit(x, fine, seat, seat);
                value(x, fine, 0, seat, seat);
                value(x, fine, 5, seat, seat);
            }
            due("clear() of a number", true, x.clear(fine, 0, 3));
            due("clear() of what is clear", false, x.clear(fine, 0, 3));
            due("clear() of what never was", false, x.clear(fine, 1, 3));
            due("clear() of the other seats", false, x.clear(!fine, 0, 2));
            due("told() behind clear()", STATE, answer(() -> x.told(fine, 0, 3)));
            due("told() beside clear()", 16L, x.told(fine, 0, 2));
            due("told() of another entry", 24L, x.told(fine, 5, 3));
            due("told() of the limit", 24L, x.told(fine, NONE, 3));
            due("clear() of a limit", true, x.clear(fine, NONE, 4));
            due("clear() of a clear limit", false, x.clear(fine, NONE, 4));
            due("told() behind clear() of a limit", STATE, answer(() -> x.told(fine, NONE, 4)));
            due("told() of the value", 32L, x.told(fine, 5, 4));
            value(x, fine, 0, 3, 0);
            due("clear() of 0", true, x.clear(fine, 0, 3));
            value(x, fine, 0, 3, 7);
            due("told() of a number behind clear()", 56L, x.told(fine, 0, 3));
            clearRefused(withEntries(2), fine);
            due("clear() without entries", NO_SUCH, answer(() -> new JuryTable().clear(fine, 0, 0)));
        }
    }

    private static void clearRefused(JuryTable x, boolean fine) {
        limit(x, fine, 0, 1);
        value(x, fine, 1, 0, 1);
        for (int entry : new int[] {-2, 2, 6, MIN, MAX}) {
            refused("clear() of entry " + entry, NO_SUCH, () -> x.clear(fine, entry, 0));
        }
        for (int seat : new int[] {-1, 5, MIN, MAX}) {
            refused("clear() at seat " + seat, NO_SUCH, () -> x.clear(fine, 0, seat));
            refused("clear() of limit " + seat, NO_SUCH, () -> x.clear(fine, NONE, seat));
        }
    }

    // Promise 8

    /** The truths of the ways 0 to 23, a character each. */
    private static String truths(JuryTable x, boolean fine, int entry, int seat) {
        StringBuilder text = new StringBuilder();
        for (int way = 0; way < 24; way++) {
            text.append(x.holds(fine, entry, seat, way) ? '1' : '0');
        }
        return text.toString();
    }

    private static final String TRUTHS_LESS = "110001" + "001110" + "001101" + "110010";
    private static final String TRUTHS_EQUAL = "010110" + "101001" + "010110" + "101001";
    private static final String TRUTHS_GREATER = "001101" + "110010" + "110001" + "001110";
    private static final String TRUTHS_NONE = "000001" + "111110" + "000001" + "111110";

    private static void holds() {
        for (boolean fine : BOTH) {
            for (int seat = 0; seat < 5; seat++) {
                JuryTable x = withEntries(2);
                due("no value, no limit", TRUTHS_NONE, truths(x, fine, 1, seat));
                value(x, fine, 1, seat, 8);
                due("no limit", TRUTHS_NONE, truths(x, fine, 1, seat));
                value(x, !fine, 1, seat, 8);
                limit(x, fine, seat, 8);
                due("8 by 8", TRUTHS_EQUAL, truths(x, fine, 1, seat));
                due("no value", TRUTHS_NONE, truths(x, fine, 0, seat));
                due("no limit of the others", TRUTHS_NONE, truths(x, !fine, 1, seat));
                limit(x, fine, seat, 8.125);
                due("8 by 8.125", TRUTHS_LESS, truths(x, fine, 1, seat));
                limit(x, fine, seat, -9);
                due("8 by -9", TRUTHS_GREATER, truths(x, fine, 1, seat));
                limit(x, fine, seat, -0.0);
                value(x, fine, 0, seat, 0.0);
                due("0 by -0", TRUTHS_EQUAL, truths(x, fine, 0, seat));
                value(x, fine, 0, seat, -1);
                due("-1 by -0", TRUTHS_LESS, truths(x, fine, 0, seat));
                limit(x, fine, seat, -2);
                due("-1 by -2", TRUTHS_GREATER, truths(x, fine, 0, seat));
                x.clear(fine, 0, seat);
                due("cleared by -2", TRUTHS_NONE, truths(x, fine, 0, seat));
                x.clear(fine, NONE, seat);
                due("8 by cleared", TRUTHS_NONE, truths(x, fine, 1, seat));
            }
            JuryTable x = withEntries(2);
            WayCall call = (entry, seat, way) -> x.holds(fine, entry, seat, way);
            wayRefused("holds", call);
            seatRefused("holds", 5, call);
        }
    }

    private interface WayCall {
        Object made(int entry, int seat, int way);
    }

    private static void wayRefused(String name, WayCall call) {
        for (int entry : new int[] {NONE, 2, 6, MIN, MAX}) {
            refused(name + " of entry " + entry, NO_SUCH, () -> call.made(entry, 0, 0));
            refused(name + " of entry " + entry + " by way 24", NO_SUCH, () -> call.made(entry, 0, 24));
        }
        for (int way : new int[] {-1, 24, 25, MIN, MAX}) {
            refused(name + " by way " + way, ARGUMENT, () -> call.made(1, 4, way));
        }
    }

    private static void seatRefused(String name, int firstBehind, WayCall call) {
        for (int seat : new int[] {-1, firstBehind, 6, MIN, MAX}) {
            refused(name + " at seat " + seat, NO_SUCH, () -> call.made(0, seat, 0));
            refused(name + " at seat " + seat + " by way -1", NO_SUCH, () -> call.made(0, seat, -1));
        }
    }

    // Promise 9

    private static void tally() {
        for (boolean fine : BOTH) {
            JuryTable x = withEntries(2);
            due("tally() of nothing by 0", 0, x.tally(fine, 1, 0));
            due("tally() of nothing by 5", 5, x.tally(fine, 1, 5));
            due("tally() of nothing by 6", 5, x.tally(fine, 1, 6));
            due("tally() of nothing by 23", 0, x.tally(fine, 1, 23));
            row(x, fine, 1, 1.0, 2.0, 3.0, null, 4.0);
            for (int seat = 0; seat < 5; seat++) {
                limit(x, fine, seat, 2);
            }
            int[] want = {1, 2, 2, 3, 1, 4, 4, 3, 3, 2, 4, 1, 2, 3, 1, 2, 1, 4, 3, 2, 4, 3, 4, 1};
            for (int way = 0; way < 24; way++) {
                due("tally() by " + way, want[way], x.tally(fine, 1, way));
            }
            due("tally() of the entry without values", 0, x.tally(fine, 0, 3));
            due("tally() of the other seats", 5, x.tally(!fine, 1, 5));
            wayRefused("tally", (entry, seat, way) -> x.tally(fine, entry, way));
        }
    }

    // Promise 10

    private static void run() {
        for (boolean fine : BOTH) {
            JuryTable x = withEntries(2);
            row(x, fine, 1, 3.0, 2.0, null, 4.0, 5.0);
            for (int seat = 0; seat < 5; seat++) {
                limit(x, fine, seat, 2);
            }
            due("run() from 0 by >=", 2, x.run(fine, 1, 0, 3));
            due("run() from 1 by >=", 2, x.run(fine, 1, 1, 3));
            due("run() from 2 by >=", 2, x.run(fine, 1, 2, 3));
            due("run() from 3 by >=", 5, x.run(fine, 1, 3, 3));
            due("run() from 4 by >=", 5, x.run(fine, 1, 4, 3));
            due("run() from 5 by >=", 5, x.run(fine, 1, 5, 3));
            due("run() from 0 by not <", 5, x.run(fine, 1, 0, 6));
            due("run() from 0 by >", 1, x.run(fine, 1, 0, 2));
            due("run() from 0 by ==", 0, x.run(fine, 1, 0, 4));
            due("run() from 1 by ==", 2, x.run(fine, 1, 1, 4));
            due("run() from 0 by limit <=", 2, x.run(fine, 1, 0, 13));
            due("run() from 0 by not limit >", 5, x.run(fine, 1, 0, 20));
            due("run() of the entry without values", 5, x.run(fine, 0, 0, 5));
            due("run() from 5 by what is not so", 5, x.run(fine, 0, 5, 4));
            WayCall call = (entry, from, way) -> x.run(fine, entry, from, way);
            wayRefused("run", call);
            seatRefused("run", 6, call);
            refused("run() from 5 by way 24", ARGUMENT, () -> x.run(fine, 0, 5, 24));
        }
    }

    // Promise 11

    private static void keep() {
        for (boolean fine : BOTH) {
            JuryTable x = withEntries(2);
            for (int way = 0; way < 24; way++) {
                boolean so = TRUTHS_NONE.charAt(way) == '1';
                due("keep() without numbers by " + way, so, x.keep(fine, 1, 3, way));
                due("kept() by " + way, so ? 1 : 0, x.kept(fine, 1, 3));
            }
            value(x, fine, 1, 3, 1);
            limit(x, fine, 3, 2);
            for (int way = 0; way < 24; way++) {
                boolean so = TRUTHS_LESS.charAt(way) == '1';
                due("keep() of 1 by 2 by " + way, so, x.keep(fine, 1, 3, way));
                due("kept() of 1 by 2 by " + way, so ? 1 : 0, x.kept(fine, 1, 3));
                due("truths that are kept", 1, x.count(7) + x.count(8));
            }
            due("told() of the value behind keep()", 8L, x.told(fine, 1, 3));
            WayCall call = (entry, seat, way) -> x.keep(fine, entry, seat, way);
            wayRefused("keep", call);
            seatRefused("keep", 5, call);
        }
    }

    // Promise 12

    private static void kept() {
        for (boolean fine : BOTH) {
            JuryTable x = withEntries(6);
            for (int entry = 0; entry < 6; entry++) {
                for (int seat = 0; seat < 5; seat++) {
                    due("kept() of nothing", NONE, x.kept(fine, entry, seat));
                    x.keep(fine, entry, seat, (entry + seat) % 2 == 0 ? 5 : 4);
                    due("kept() of the other seats", NONE, x.kept(!fine, entry, seat));
                }
            }
            for (int entry = 0; entry < 6; entry++) {
                for (int seat = 0; seat < 5; seat++) {
                    due("kept()", (entry + seat) % 2 == 0 ? 1 : 0, x.kept(fine, entry, seat));
                }
            }
            value(x, fine, 0, 0, 1);
            limit(x, fine, 0, 1);
            due("kept() behind other values", 1, x.kept(fine, 0, 0));
            x.keep(fine, 0, 0, 5);
            due("kept() of the new truth", 0, x.kept(fine, 0, 0));
            x.clear(fine, 0, 0);
            x.clear(fine, NONE, 0);
            due("kept() behind clear()", 0, x.kept(fine, 0, 0));
            x.holds(fine, 0, 0, 5);
            due("kept() behind holds()", 0, x.kept(fine, 0, 0));
            keptRefused(fine);
        }
    }

    private static void keptRefused(boolean fine) {
        JuryTable x = withEntries(2);
        x.keep(fine, 0, 0, 5);
        for (int entry : new int[] {NONE, 2, 6, MIN, MAX}) {
            refused("kept() of entry " + entry, NO_SUCH, () -> x.kept(fine, entry, 0));
        }
        for (int seat : new int[] {-1, 5, MIN, MAX}) {
            refused("kept() at seat " + seat, NO_SUCH, () -> x.kept(fine, 0, seat));
        }
    }

    // Promise 13

    private static String places(JuryTable x, boolean fine, int seat, boolean strict) {
        StringBuilder text = new StringBuilder();
        for (int entry = 0; entry < x.count(0); entry++) {
            text.append(x.place(fine, entry, seat, strict));
        }
        return text.toString();
    }

    private static void places(boolean fine, String strict, String notStrict, Double... values) {
        for (int seat = 0; seat < 5; seat++) {
            JuryTable x = column(fine, seat, values);
            String row = Arrays.toString(values);
            due("strict places of " + row, strict, places(x, fine, seat, true));
            due("places of " + row, notStrict, places(x, fine, seat, false));
            due("strict places of " + row + " once more", strict, places(x, fine, seat, true));
        }
    }

    private static void place() {
        for (boolean fine : BOTH) {
            places(fine, "0", "0", 1.0);
            places(fine, "0", "0", (Double) null);
            places(fine, "10", "10", 1.0, 2.0);
            places(fine, "01", "01", 2.0, 1.0);
            places(fine, "01", "10", 2.0, 2.0);
            places(fine, "01", "10", 0.0, -0.0);
            places(fine, "01", "10", null, 2.0);
            places(fine, "01", "10", 2.0, null);
            places(fine, "012345", "543210", null, null, null, null, null, null);
            places(fine, "543210", "543210", 1.0, 2.0, 3.0, 4.0, 5.0, 6.0);
            places(fine, "012345", "012345", 6.0, 5.0, 4.0, 3.0, 2.0, 1.0);
            places(fine, "401352", "401352", 2.0, 8.0, 7.0, 3.0, 1.0, 5.0);
            // 5 does not pass what abstains, though 3 stands ahead of it.
            places(fine, "012", "210", 3.0, null, 5.0);
            // Not strict, what abstains passes 5, and 4 stops behind 5.
            places(fine, "012", "102", 5.0, null, 4.0);
            due("places by a seat without values", "012",
                    places(column(fine, 0, 1.0, 2.0, 3.0), fine, 1, true));
            due("places by the other seats", "210",
                    places(column(fine, 0, 3.0, 2.0, 1.0), !fine, 0, false));
            JuryTable x = withEntries(2);
            for (int entry : new int[] {NONE, 2, 6, MIN, MAX}) {
                refused("place() of entry " + entry, NO_SUCH, () -> x.place(fine, entry, 0, true));
            }
            for (int seat : new int[] {-1, 5, MIN, MAX}) {
                refused("place() by seat " + seat, NO_SUCH, () -> x.place(fine, 0, seat, false));
            }
        }
    }

    // Promise 14

    private static void bests(boolean fine, String want, Double... values) {
        for (int seat = 0; seat < 5; seat++) {
            JuryTable x = column(fine, seat, values);
            StringBuilder got = new StringBuilder();
            for (int how = 0; how < 4; how++) {
                got.append(x.best(fine, seat, how));
            }
            due("best() of " + Arrays.toString(values), want, got.toString());
        }
    }

    private static void best() {
        for (boolean fine : BOTH) {
            bests(fine, "-1-1-1-1");
            bests(fine, "0000", 1.0);
            bests(fine, "0000", (Double) null);
            bests(fine, "1111", 1.0, 2.0);
            bests(fine, "0000", 2.0, 1.0);
            bests(fine, "0011", 2.0, 2.0);
            bests(fine, "0011", 0.0, -0.0);
            bests(fine, "0110", 2.0, null);
            bests(fine, "0110", null, 2.0);
            bests(fine, "0550", null, null, null, null, null, null);
            // Each value passes what abstains, and so do less ones behind it.
            bests(fine, "0220", 9.0, null, 1.0);
            bests(fine, "3333", 4.0, 1.0, -3.0, 5.0, 2.0);
            bests(fine, "1443", 4.0, 5.0, 3.0, 5.0, null);
            due("best() by another seat", 0, column(fine, 0, 1.0, 2.0).best(fine, 1, 0));
            due("best() by the other seats", 0, column(fine, 0, 1.0, 2.0).best(!fine, 0, 0));
            bestRefused(new JuryTable(), fine);
            bestRefused(withEntries(2), fine);
        }
    }

    private static void bestRefused(JuryTable x, boolean fine) {
        for (int seat : new int[] {-1, 5, MIN, MAX}) {
            refused("best() by seat " + seat, NO_SUCH, () -> x.best(fine, seat, 0));
            refused("best() by seat " + seat + ", how 4", NO_SUCH, () -> x.best(fine, seat, 4));
        }
        for (int how : new int[] {-1, 4, MIN, MAX}) {
            refused("best(), how " + how, ARGUMENT, () -> x.best(fine, 4, how));
        }
    }

    // Promise 15

    private static String againsts(JuryTable x, boolean fine, int a, int b) {
        StringBuilder text = new StringBuilder();
        for (int what = 0; what < 5; what++) {
            text.append(x.against(fine, a, b, what));
        }
        return text.toString();
    }

    private static void against() {
        for (boolean fine : BOTH) {
            JuryTable x = withEntries(4);
            due("against() without values", "00055", againsts(x, fine, 0, 1));
            row(x, fine, 0, 1.0, 2.0, 3.0, null, null);
            row(x, fine, 1, 0.0, 1.0, 3.0, 4.0, null);
            row(x, fine, 2, 2.0, 3.0, 4.0, 5.0, 6.0);
            row(x, fine, 3, -0.0, 9.0, 3.0, 4.0, 5.0);
            due("against() of 0 and 1", "20123", againsts(x, fine, 0, 1));
            due("against() of 1 and 0", "02123", againsts(x, fine, 1, 0));
            due("against() of 2 and 1", "40011", againsts(x, fine, 2, 1));
            due("against() of 1 and 2", "04011", againsts(x, fine, 1, 2));
            due("against() of 1 and 3", "01314", againsts(x, fine, 1, 3));
            due("against() of 2 and 3", "41000", againsts(x, fine, 2, 3));
            due("against() of 0 and itself", "00325", againsts(x, fine, 0, 0));
            due("against() of 2 and itself", "00505", againsts(x, fine, 2, 2));
            due("against() at the other seats", "00055", againsts(x, !fine, 2, 3));
            againstRefused(x, fine);
        }
    }

    private static void againstRefused(JuryTable x, boolean fine) {
        for (int entry : new int[] {NONE, 4, 6, MIN, MAX}) {
            refused("against() of a " + entry, NO_SUCH, () -> x.against(fine, entry, 0, 0));
            refused("against() of b " + entry, NO_SUCH, () -> x.against(fine, 0, entry, 0));
            refused("against() of a " + entry + ", what 5", NO_SUCH, () -> x.against(fine, entry, 0, 5));
            refused("against() of b " + entry + ", what 5", NO_SUCH, () -> x.against(fine, 0, entry, 5));
        }
        for (int what : new int[] {-1, 5, MIN, MAX}) {
            refused("against(), what " + what, ARGUMENT, () -> x.against(fine, 0, 1, what));
        }
    }

    // Promise 16

    private static void told() {
        for (boolean fine : BOTH) {
            JuryTable x = withEntries(2);
            for (double v : new double[] {0, 1, -1, 0.125, -0.125, 1.5, -7.875, 1024.25, 131071.875}) {
                value(x, fine, 1, 4, v);
                limit(x, fine, 4, -v);
                due("told() of " + v, (long) (v * 8), x.told(fine, 1, 4));
                due("told() of the limit " + -v, (long) (-v * 8), x.told(fine, NONE, 4));
            }
            value(x, fine, 1, 4, -0.0);
            due("told() of -0", 0L, x.told(fine, 1, 4));
            refused("told() of NONE", STATE, () -> x.told(fine, 0, 4));
            refused("told() of NONE at another seat", STATE, () -> x.told(fine, 1, 3));
            refused("told() of a limit that is NONE", STATE, () -> x.told(fine, NONE, 3));
            refused("told() of the other seats", STATE, () -> x.told(!fine, 1, 4));
            for (int entry : new int[] {-2, 2, 6, MIN, MAX}) {
                refused("told() of entry " + entry, NO_SUCH, () -> x.told(fine, entry, 4));
            }
            for (int seat : new int[] {-1, 5, MIN, MAX}) {
                refused("told() at seat " + seat, NO_SUCH, () -> x.told(fine, 0, seat));
                refused("told() of limit " + seat, NO_SUCH, () -> x.told(fine, NONE, seat));
            }
        }
        JuryTable x = withEntries(1);
        x.mark(0, 0, 0x1p49 + 0.125);
        due("told() of a mark that no float holds", (1L << 52) + 1, x.told(true, 0, 0));
    }

    // Promise 17

    private static void sum() {
        for (boolean fine : BOTH) {
            JuryTable x = withEntries(3);
            due("sum() of nothing", 0L, x.sum(fine, 1));
            row(x, fine, 1, 1.0, -0.125, null, 2.5, 100.0);
            row(x, fine, 2, -1.0, -2.0, -3.0, -4.0, -5.5);
            limit(x, fine, 2, 50);
            due("sum()", 827L, x.sum(fine, 1));
            due("sum() of what is less than 0", -124L, x.sum(fine, 2));
            due("sum() of the entry without values", 0L, x.sum(fine, 0));
            due("sum() of the other seats", 0L, x.sum(!fine, 1));
            x.clear(fine, 1, 4);
            due("sum() behind clear()", 27L, x.sum(fine, 1));
            sumOfParts(fine);
            sumOfGreatOnes(fine);
            sumAtTheEndsOfLong(fine);
            sumThatNoLongHolds(fine);
            for (int entry : new int[] {NONE, 3, 6, MIN, MAX}) {
                refused("sum() of entry " + entry, NO_SUCH, () -> x.sum(fine, entry));
            }
        }
        JuryTable x = withEntries(1);
        row(x, true, 0, 0x1p55, 0.125, 0.125, 0.125);
        due("sum() of marks that no double holds", (1L << 58) + 3, x.sum(true, 0));
        row(x, false, 0, 16777216.0, 1.0, 1.0, 1.0);
        due("sum() of points that no float holds", 8L * 16777219, x.sum(false, 0));
    }

    private static void sumOfParts(boolean fine) {
        sumDue(fine, 8L, 1.0, 0x1p-80, -0x1p-80);
        sumDue(fine, 1L, 0x1.8p-4, -0x1.04p-57, -0x1.04p-57, 0x1.04p-56, 0x1p-5);
        JuryTable x = withEntries(1);
        row(x, fine, 0, 0.0625, 0.0625);
        due("sum() of two sixteenths", 1L, x.sum(fine, 0));
        x.clear(fine, 0, 0);
        due("sum() of 1/16 drops its rest", 0L, x.sum(fine, 0));
        row(x, fine, 0, null, -0.0625);
        due("sum() of -1/16 drops its rest", 0L, x.sum(fine, 0));
        row(x, fine, 0, 1.0, -0.0625, -0.0625);
        due("sum() of 1 and two times -1/16", 7L, x.sum(fine, 0));
        row(x, fine, 0, -1.0, 0.0625, 0.0625);
        due("sum() of -1 and two times 1/16", -7L, x.sum(fine, 0));
        x.clear(fine, 0, 2);
        row(x, fine, 0, 1.0, -0.0625);
        due("sum() of 1 and -1/16 drops its rest", 7L, x.sum(fine, 0));
        row(x, fine, 0, -1.0, 0.0625);
        due("sum() of -1 and 1/16 drops its rest", -7L, x.sum(fine, 0));
        row(x, fine, 0, 1.0, 0.0625);
        due("sum() of 1 and 1/16 drops its rest", 8L, x.sum(fine, 0));
        row(x, fine, 0, -1.0, -0.0625);
        due("sum() of -1 and -1/16 drops its rest", -8L, x.sum(fine, 0));
    }

    /** A long holds the sum, whatever it does of its values. */
    private static void sumOfGreatOnes(boolean fine) {
        double most = fine ? Double.MAX_VALUE : Float.MAX_VALUE;
        sumDue(fine, 0L, 0x1p60, -0x1p60);
        sumDue(fine, 0L, -0x1p60, 0x1p60);
        sumDue(fine, 0L, null, 0x1p100, null, null, -0x1p100);
        sumDue(fine, 8L, 0x1p100, 1.0, -0x1p100);
        sumDue(fine, -1L, 0x1p100, -0.125, 0x1p100, -0x1p101);
        sumDue(fine, 24L, 0x1p61, -0x1p60, -0x1p60, 3.0);
        sumDue(fine, 1L, most, most, -most, -most, 0.125);
        sumDue(fine, -1L, -most, most, -0.125, most, -most);
        sumDue(fine, 0L, most, -0x1p60, 0x1p60, 0.0, -most);
        sumDue(fine, 1L << 62, 0x1p61, -0x1p60, -0x1p59);
        sumDue(fine, 1L << 56, 0x1p76, -0x1p53, -0x1p76, 0x1p54);
        sumDue(fine, 1L << 40, 0x1p90, 0x1.000002p60, -0x1p90, -0x1p60);
    }

    private static void sumAtTheEndsOfLong(boolean fine) {
        sumDue(fine, Long.MAX_VALUE, 0x1p60, -0.125);
        sumDue(fine, Long.MAX_VALUE - 1, 0x1p60, -0.125, -0.125);
        sumDue(fine, Long.MAX_VALUE - 7, 0x1p59, 0x1p59, -1.0);
        sumDue(fine, Long.MIN_VALUE, -0x1p60);
        sumDue(fine, Long.MIN_VALUE, -0x1p59, -0x1p59);
        sumDue(fine, Long.MIN_VALUE, -0x1p60, 0.125, -0.125);
        sumDue(fine, Long.MIN_VALUE + 1, -0x1p60, 0.125);
        sumDue(fine, Long.MIN_VALUE + 1, 0.125, -0x1p61, 0x1p60);
    }

    /** The document leaves these open; the README tells what they answer. */
    private static void sumThatNoLongHolds(boolean fine) {
        double most = fine ? Double.MAX_VALUE : Float.MAX_VALUE;
        double endless = Double.POSITIVE_INFINITY;
        sumDue(fine, Long.MAX_VALUE, 0x1p60);
        sumDue(fine, Long.MAX_VALUE, 0x1p61, 0x1p61, 0x1p61, -0x1p59);
        sumDue(fine, Long.MAX_VALUE, most, most, most, most, most);
        sumDue(fine, Long.MIN_VALUE, -0x1p60, -0.125);
        sumDue(fine, Long.MIN_VALUE, -0x1p62, -0x1p62, 0x1p60);
        sumDue(fine, Long.MIN_VALUE, -most, -most, -most, -most, -most);
        sumDue(fine, Long.MAX_VALUE, endless);
        sumDue(fine, Long.MAX_VALUE, -most, -most, endless, -most, -most);
        sumDue(fine, Long.MIN_VALUE, -endless);
        sumDue(fine, Long.MIN_VALUE, most, -endless, endless, -endless, most);
        sumDue(fine, 1L, endless, -endless, 0.125, -endless, endless);
    }

    private static void sumDue(boolean fine, long want, Double... values) {
        JuryTable x = withEntries(1);
        row(x, fine, 0, values);
        due("sum(" + fine + ") of " + Arrays.toString(values), want, x.sum(fine, 0));
    }

    // Promise 18

    private static void count() {
        JuryTable x = withEntries(2);
        due("counts of two entries", "[2, 0, 0, 10, 10, 0, 0, 0, 0]", counts(x));
        row(x, true, 0, 1.0, 2.0, 0.0);
        row(x, true, 1, 1.0);
        row(x, false, 1, 1.0, -2.0, 0.0, 7.0, 8.0);
        due("counts of values", "[2, 4, 5, 6, 5, 0, 0, 0, 0]", counts(x));
        x.bar(0, 1);
        x.bar(4, 0);
        x.line(0, 1);
        x.line(2, 1);
        x.line(4, -1);
        due("counts of limits", "[2, 4, 5, 6, 5, 2, 3, 0, 0]", counts(x));
        x.keep(true, 0, 0, 4);
        x.keep(false, 1, 0, 4);
        x.keep(false, 1, 4, 3);
        x.keep(true, 1, 4, 4);
        x.keep(false, 0, 0, 4);
        due("counts of truths", "[2, 4, 5, 6, 5, 2, 3, 3, 2]", counts(x));
        x.keep(true, 0, 0, 5);
        due("counts of truths behind a change", "[2, 4, 5, 6, 5, 2, 3, 2, 3]", counts(x));
        x.mark(0, 0, 3);
        x.bar(0, 3);
        due("counts behind the same again", "[2, 4, 5, 6, 5, 2, 3, 2, 3]", counts(x));
        x.clear(true, 0, 0);
        x.clear(false, 1, 4);
        x.clear(true, NONE, 0);
        x.clear(false, NONE, 0);
        due("counts behind clear()", "[2, 3, 4, 7, 6, 1, 2, 2, 3]", counts(x));
        x.entry();
        due("counts behind entry()", "[3, 3, 4, 12, 11, 1, 2, 2, 3]", counts(x));
        countFull();
        for (int what : new int[] {-1, 9, 10, MIN, MAX}) {
            refused("count() of " + what, ARGUMENT, () -> x.count(what));
        }
    }

    private static void countFull() {
        JuryTable x = withEntries(6);
        for (boolean fine : BOTH) {
            for (int seat = 0; seat < 5; seat++) {
                limit(x, fine, seat, 1);
                for (int entry = 0; entry < 6; entry++) {
                    value(x, fine, entry, seat, 1);
                    x.keep(fine, entry, seat, fine ? 4 : 5);
                }
            }
        }
        due("counts of a full table", "[6, 30, 30, 0, 0, 5, 5, 30, 30]", counts(x));
    }
}
