import java.util.Arrays;
import java.util.NoSuchElementException;
import java.util.function.Consumer;

/**
 * Each sentence of the document that names a boundary case has a test of its own here, told by its words.
 * No object gets more than the 512 calls for which the document speaks.
 */
public final class BoundaryTest {
    private static final int NONE = JuryTable.NONE;
    private static final int ENTRIES = 6;
    private static final int SEATS = 5;
    private static final boolean[] BOTH = {true, false};
    private static final int MIN = Integer.MIN_VALUE;
    private static final int MAX = Integer.MAX_VALUE;
    private static final Class<?> NO_SUCH = NoSuchElementException.class;
    private static final Class<?> ARGUMENT = IllegalArgumentException.class;
    private static final Class<?> STATE = IllegalStateException.class;

    /** Five times these wraps around to -1, 4, 1 and -4: with the right seats that is a cell that there is. */
    private static final int[] WRAPPED_ENTRIES = {858993459, 858993460, -858993459, -858993460};
    /** Some of these make, with an entry that there is, the cell of another entry. */
    private static final int[] WRONG_SEATS = {-1, 5, 6, 9, -5, 10, 35, 256, 65536, MIN, MIN + 1, MAX};
    private static final int[] WRONG_STARTS = {-1, 6, 7, 10, -5, 256, 65541, MIN, MIN + 5, MAX};
    private static final int[] WRONG_WAYS = {-1, 24, 25, 30, -6, -24, 256, 65536, MIN, MAX};

    private interface Call {
        Object on(JuryTable x);
    }

    private static int wrong = 0;
    private static int looked = 0;
    private static int sentences = 0;
    private static String sentence = "";

    public static void main(String[] args) {
        terms();
        givingAndClearing();
        comparing();
        keeping();
        ordering();
        telling();
        System.out.println(sentences + " sentences, " + looked + " answers looked at, " + wrong + " of them wrong");
        if (wrong != 0) {
            System.exit(1);
        }
    }

    // The sentences

    private static void terms() {
        says("What it is", "used for at most 512 calls", BoundaryTest::lastCall);
        says("Terms", "ENTRIES come one by one, at most 6, numbered from 0 on", BoundaryTest::sixEntries);
        ofBoth("Terms", "5 JUDGES .. 5 SCORERS; both are numbered from 0 on", BoundaryTest::fiveSeats);
        says("Terms", "MARKS (doubles) and a BAR (a double)", BoundaryTest::doubles);
        says("Terms", "POINTS (floats) and a LINE (a float)", BoundaryTest::floats);
        ofBoth("Terms", "At first each value of an entry and each limit is NONE", BoundaryTest::noneAtFirst);
        ofBoth("Terms", "NONE .. compared with anything, with NONE too", BoundaryTest::noneCompared);
        ofBoth("Terms", "Others are compared as numbers", BoundaryTest::closeNumbers);
        ofBoth("Terms", "0 and -0 are alike", BoundaryTest::zerosAlike);
        ofBoth("Terms", "0 v < b .. 5 v != b", fine -> ways(fine, 0));
        ofBoth("Terms", "6 to 11 that the way of 6 less is not so", fine -> ways(fine, 6));
        ofBoth("Terms", "12 to 17 as 0 to 5 with b on the left", fine -> ways(fine, 12));
        ofBoth("Terms", "18 to 23 that the way of 6 less is not so", fine -> ways(fine, 18));
        says("Terms", "A call that throws changes nothing", BoundaryTest::refusedEverywhere);
        says("Terms", "of several exceptions the first one is thrown", BoundaryTest::firstException);
        ofBoth("Terms", "what the mark, points, bar or line is, eight times", BoundaryTest::eightTimes);
        says("Terms", "NONE = -1", () -> due("NONE", -1, JuryTable.NONE));
        says("Not promised", "nothing beyond the state changes described", BoundaryTest::askingChangesNothing);
        says("JuryTable", "No entries, no limits", BoundaryTest::newObject);
    }

    private static void givingAndClearing() {
        says("entry", "its number", BoundaryTest::entryNumbers);
        says("entry", "IllegalStateException: there are 6", BoundaryTest::seventhEntry);
        says("mark", "A judge's mark of an entry", () -> onlyThatValue(true));
        says("mark", "there is no such entry", () -> valueOfNoEntry(true));
        says("mark", "there is no such .. judge", () -> valueAtNoSeat(true));
        says("points", "A scorer's points of an entry", () -> onlyThatValue(false));
        says("points", "there is no such entry", () -> valueOfNoEntry(false));
        says("points", "there is no such .. scorer", () -> valueAtNoSeat(false));
        says("bar", "A judge's bar", () -> onlyThatLimit(true));
        says("bar", "there is no such judge", () -> limitOfNoSeat(true));
        says("line", "A scorer's line", () -> onlyThatLimit(false));
        says("line", "there is no such scorer", () -> limitOfNoSeat(false));
        ofBoth("clear", "A value of an entry becomes NONE", BoundaryTest::onlyThatValueCleared);
        ofBoth("clear", "where entry is NONE, a seat's limit", BoundaryTest::onlyThatLimitCleared);
        ofBoth("clear", "whether it was a number", BoundaryTest::wasNumber);
        ofBoth("clear", "there is no such entry (NONE aside)", BoundaryTest::clearOfNoEntry);
        ofBoth("clear", "there is no such .. seat", BoundaryTest::clearAtNoSeat);
    }

    private static void comparing() {
        ofBoth("holds", "a way is so of a value and its limit", BoundaryTest::holdsAtItsOwnSeat);
        ofBoth("holds", "there is no such entry", BoundaryTest::holdsOfNoEntry);
        ofBoth("holds", "there is no such .. seat", BoundaryTest::holdsAtNoSeat);
        ofBoth("holds", "way is not 0 .. 23", BoundaryTest::holdsByNoWay);
        ofBoth("tally", "At how many seats", BoundaryTest::tallyOfNoneToAll);
        ofBoth("tally", "there is no such entry", BoundaryTest::tallyOfNoEntry);
        ofBoth("tally", "way is not 0 .. 23", BoundaryTest::tallyByNoWay);
        ofBoth("run", "from a seat (0 to 5; 5 is behind all)", BoundaryTest::runFromBehindAll);
        ofBoth("run", "the seat at which it stops", BoundaryTest::runStops);
        ofBoth("run", "5 behind all", BoundaryTest::runThrough);
        ofBoth("run", "there is no such entry", BoundaryTest::runOfNoEntry);
        ofBoth("run", "from is not 0 .. 5", BoundaryTest::runFromNowhere);
        ofBoth("run", "way is not 0 .. 23", BoundaryTest::runByNoWay);
    }

    private static void keeping() {
        ofBoth("keep", "in the place of the one that was kept there: that truth", BoundaryTest::keptAnew);
        ofBoth("keep", "Exceptions as for holds(): no such entry", BoundaryTest::keepOfNoEntry);
        ofBoth("keep", "Exceptions as for holds(): no such seat", BoundaryTest::keepAtNoSeat);
        ofBoth("keep", "Exceptions as for holds(): way is not 0 .. 23", BoundaryTest::keepByNoWay);
        ofBoth("kept", "whatever the values are by now", BoundaryTest::keptWhateverComes);
        ofBoth("kept", "1 a truth that is so, 0 one that isn't, NONE", BoundaryTest::keptAnswers);
        ofBoth("kept", "there is no such entry", BoundaryTest::keptOfNoEntry);
        ofBoth("kept", "there is no such .. seat", BoundaryTest::keptAtNoSeat);
    }

    private static void ordering() {
        ofBoth("place", "from 0 on", BoundaryTest::placesFromZero);
        ofBoth("place", "as long as that one's value is less (strict)", BoundaryTest::strictPlaces);
        ofBoth("place", "not so that that one's value is the greater one", BoundaryTest::loosePlaces);
        ofBoth("place", "there is no such entry", BoundaryTest::placeOfNoEntry);
        ofBoth("place", "there is no such .. seat", BoundaryTest::placeAtNoSeat);
        ofBoth("best", "entry 0 at first", BoundaryTest::bestOfOne);
        ofBoth("best", "a greater value (how 0)", fine -> bests(fine, 0));
        ofBoth("best", "not a less or equal one (1)", fine -> bests(fine, 1));
        ofBoth("best", "a value that is not less (2)", fine -> bests(fine, 2));
        ofBoth("best", "a greater or equal one (3)", fine -> bests(fine, 3));
        ofBoth("best", "NONE without entries", BoundaryTest::bestOfNothing);
        ofBoth("best", "there is no such seat", BoundaryTest::bestAtNoSeat);
        ofBoth("best", "another how", BoundaryTest::bestByNoHow);
        ofBoth("against", "greater (what 0)", fine -> againsts(fine, 0));
        ofBoth("against", "less (1)", fine -> againsts(fine, 1));
        ofBoth("against", "equal (2)", fine -> againsts(fine, 2));
        ofBoth("against", "none of these (3)", fine -> againsts(fine, 3));
        ofBoth("against", "not greater and not less (4)", fine -> againsts(fine, 4));
        ofBoth("against", "there is no such entry", BoundaryTest::againstNoEntry);
        ofBoth("against", "another what", BoundaryTest::againstByNoWhat);
    }

    private static void telling() {
        ofBoth("told", "where entry is NONE, a seat's limit", BoundaryTest::toldLimits);
        ofBoth("told", "there is no such entry (NONE aside)", BoundaryTest::toldOfNoEntry);
        ofBoth("told", "there is no such .. seat", BoundaryTest::toldAtNoSeat);
        ofBoth("told", "IllegalStateException: it is NONE", BoundaryTest::toldOfNone);
        ofBoth("sum", "The sum .., in eighths", BoundaryTest::sumOfOpposites);
        ofBoth("sum", "values that are numbers", BoundaryTest::sumOfNumbers);
        ofBoth("sum", "0 without any", BoundaryTest::sumWithoutAny);
        ofBoth("sum", "there is no such entry", BoundaryTest::sumOfNoEntry);
        says("count", "0 entries", BoundaryTest::countOfEntries);
        says("count", "1 marks and 2 points that are numbers", BoundaryTest::countOfNumbers);
        says("count", "3 marks and 4 points that are NONE", BoundaryTest::countOfAbstained);
        says("count", "5 bars and 6 lines that are numbers", BoundaryTest::countOfLimits);
        says("count", "7 truths that are kept and so, 8 kept and not so", BoundaryTest::countOfTruths);
        says("count", "another what", BoundaryTest::countOfNothing);
    }

    // What the tests are made of

    private static void says(String where, String words, Runnable test) {
        sentence = where + ", '" + words + "'";
        sentences++;
        test.run();
    }

    private static void ofBoth(String where, String words, Consumer<Boolean> test) {
        says(where, words, () -> {
            test.accept(true);
            test.accept(false);
        });
    }

    private static void due(String call, Object want, Object got) {
        looked++;
        if (!want.equals(got)) {
            wrong++;
            System.out.println(sentence + ": " + call + " answered " + got + ", due is " + want);
        }
    }

    private static Object answer(JuryTable x, Call call) {
        try {
            return call.on(x);
        } catch (RuntimeException e) {
            return e.getClass();
        }
    }

    /** On a new table with so many entries the call throws just this and changes nothing. */
    private static void refused(int entries, String call, Class<?> want, Call made) {
        JuryTable x = filled(entries);
        String before = state(x);
        String table = " with " + entries + " entries";
        due(call + table, want, answer(x, made));
        due("the state behind " + call + table, before, state(x));
    }

    private interface OfEntry {
        Object on(JuryTable x, int entry);
    }

    private interface OfNumber {
        Object on(JuryTable x, int number);
    }

    /** However many entries there are, the next one is missing, and so is each that no table has. */
    private static void noEntry(String call, boolean noneIsWrong, OfEntry made) {
        for (int entries = 0; entries <= ENTRIES; entries++) {
            for (int entry : new int[] {entries, entries + 1, 6, 7, 256, 65536, -2, MIN, MIN + 1, MAX}) {
                refused(entries, call + " of entry " + entry, NO_SUCH, x -> made.on(x, entry));
            }
            for (int entry : WRAPPED_ENTRIES) {
                refused(entries, call + " of entry " + entry, NO_SUCH, x -> made.on(x, entry));
            }
            if (noneIsWrong) {
                refused(entries, call + " of entry NONE", NO_SUCH, x -> made.on(x, NONE));
            }
        }
    }

    private static void noNumber(int entries, String call, int[] numbers, Class<?> want, OfNumber made) {
        for (int number : numbers) {
            refused(entries, call + " " + number, want, x -> made.on(x, number));
        }
    }

    private static JuryTable withEntries(int entries) {
        JuryTable x = new JuryTable();
        for (int i = 0; i < entries; i++) {
            x.entry();
        }
        return x;
    }

    /** Numbers, limits and truths, each in another cell, with some of each kind that are missing. */
    private static JuryTable filled(int entries) {
        JuryTable x = withEntries(entries);
        for (boolean fine : BOTH) {
            int sign = fine ? 1 : -1;
            for (int seat = 0; seat < SEATS; seat++) {
                if (seat != 3) {
                    limit(x, fine, seat, sign * (1 + seat) / 8.0);
                }
                for (int entry = 0; entry < entries; entry++) {
                    fill(x, fine, entry, seat, sign * (10 + entry * SEATS + seat) / 8.0);
                }
            }
        }
        return x;
    }

    private static void fill(JuryTable x, boolean fine, int entry, int seat, double v) {
        if (hasNumber(entry, seat)) {
            value(x, fine, entry, seat, v);
        }
        int kind = (entry + seat) % 3;
        if (kind != 2) {
            x.keep(fine, entry, seat, kind == 0 ? 4 : 5);
        }
    }

    private static boolean hasNumber(int entry, int seat) {
        return (entry + seat) % 4 != 3;
    }

    private static Object value(JuryTable x, boolean fine, int entry, int seat, double v) {
        if (fine) {
            x.mark(entry, seat, v);
        } else {
            x.points(entry, seat, (float) v);
        }
        return "done";
    }

    private static Object limit(JuryTable x, boolean fine, int seat, double v) {
        if (fine) {
            x.bar(seat, v);
        } else {
            x.line(seat, (float) v);
        }
        return "done";
    }

    /** The value of entry 0, 1, .. at one seat; null is NONE. */
    private static JuryTable column(boolean fine, int seat, Double... values) {
        JuryTable x = withEntries(values.length);
        for (int entry = 0; entry < values.length; entry++) {
            if (values[entry] != null) {
                value(x, fine, entry, seat, values[entry]);
            }
        }
        return x;
    }

    /** The value of one entry at seat 0, 1, ..; null is NONE. */
    private static void row(JuryTable x, boolean fine, int entry, Double... values) {
        for (int seat = 0; seat < values.length; seat++) {
            if (values[seat] != null) {
                value(x, fine, entry, seat, values[seat]);
            }
        }
    }

    private static Object told(JuryTable x, boolean fine, int entry, int seat) {
        return answer(x, y -> y.told(fine, entry, seat));
    }

    /** All that can be asked for, in some 140 calls. */
    private static String state(JuryTable x) {
        StringBuilder text = new StringBuilder(counts(x));
        for (boolean fine : BOTH) {
            for (int entry = NONE; entry < x.count(0); entry++) {
                text.append('|');
                for (int seat = 0; seat < SEATS; seat++) {
                    text.append(told(x, fine, entry, seat)).append(' ');
                    if (entry != NONE) {
                        text.append(x.kept(fine, entry, seat)).append(' ');
                    }
                }
            }
        }
        return text.toString();
    }

    private static String counts(JuryTable x) {
        int[] counts = new int[9];
        for (int what = 0; what < counts.length; what++) {
            counts[what] = x.count(what);
        }
        return Arrays.toString(counts);
    }

    /** The truths of the ways 0 to 23, a character each. */
    private static String truths(JuryTable x, boolean fine, int entry, int seat) {
        StringBuilder text = new StringBuilder();
        for (int way = 0; way < 24; way++) {
            text.append(x.holds(fine, entry, seat, way) ? '1' : '0');
        }
        return text.toString();
    }

    private static final String LESS = "110001" + "001110" + "001101" + "110010";
    private static final String EQUAL = "010110" + "101001" + "010110" + "101001";
    private static final String GREATER = "001101" + "110010" + "110001" + "001110";
    private static final String APART = "000001" + "111110" + "000001" + "111110";

    // Terms

    private static void lastCall() {
        JuryTable x = new JuryTable();
        x.entry();
        for (int call = 2; call <= 511; call++) {
            x.mark(0, 4, call);
        }
        due("the call 512", 8L * 511, x.told(true, 0, 4));
    }

    private static void sixEntries() {
        JuryTable x = new JuryTable();
        for (int entry = 0; entry < ENTRIES; entry++) {
            final int next = entry;
            due("sum() of entry " + entry + " before it came", NO_SUCH, answer(x, y -> y.sum(true, next)));
            x.entry();
            due("sum() of entry " + entry, 0L, x.sum(true, entry));
        }
        due("a seventh entry()", STATE, answer(x, JuryTable::entry));
        due("sum() of entry 6", NO_SUCH, answer(x, y -> y.sum(true, 6)));
    }

    private static void fiveSeats(boolean fine) {
        JuryTable x = withEntries(1);
        for (int seat = 0; seat < SEATS; seat++) {
            due("a limit of seat " + seat, "done", limit(x, fine, seat, seat));
            due("a value at seat " + seat, "done", value(x, fine, 0, seat, seat));
            due("told() at seat " + seat, 8L * seat, told(x, fine, 0, seat));
            due("told() of limit " + seat, 8L * seat, told(x, fine, NONE, seat));
        }
        due("told() at seat 5", NO_SUCH, told(x, fine, 0, SEATS));
        due("told() of limit 5", NO_SUCH, told(x, fine, NONE, SEATS));
    }

    private static void doubles() {
        JuryTable x = withEntries(1);
        x.mark(0, 0, 0x1p49 + 0.125);
        x.bar(0, 0x1p49 + 0.25);
        due("told() of a mark that no float holds", (1L << 52) + 1, told(x, true, 0, 0));
        due("told() of a bar that no float holds", (1L << 52) + 2, told(x, true, NONE, 0));
        x.mark(0, 1, Double.MAX_VALUE);
        x.bar(1, Float.MAX_VALUE);
        due("the greatest double by the greatest float", GREATER, truths(x, true, 0, 1));
        x.mark(0, 2, -Double.MIN_VALUE);
        x.bar(2, -0.0);
        due("the double right below 0 by 0", LESS, truths(x, true, 0, 2));
    }

    private static void floats() {
        JuryTable x = withEntries(1);
        x.points(0, 0, 16777215f);
        x.line(0, 16777216f);
        due("told() of points that just fit a float", 8L * 16777215, told(x, false, 0, 0));
        due("told() of a line that just fits a float", 8L * 16777216, told(x, false, NONE, 0));
        x.points(0, 1, Float.MAX_VALUE);
        x.line(1, -Float.MAX_VALUE);
        due("the greatest float by the least", GREATER, truths(x, false, 0, 1));
        x.points(0, 2, -Float.MIN_VALUE);
        x.line(2, -0f);
        due("the float right below 0 by 0", LESS, truths(x, false, 0, 2));
    }

    private static void noneAtFirst(boolean fine) {
        JuryTable x = new JuryTable();
        for (int entry = NONE; entry < ENTRIES; entry++) {
            if (entry != NONE) {
                x.entry();
            }
            for (int seat = 0; seat < SEATS; seat++) {
                due("told() of new " + entry + " at " + seat, STATE, told(x, fine, entry, seat));
            }
        }
    }

    private static void noneCompared(boolean fine) {
        for (int seat = 0; seat < SEATS; seat++) {
            JuryTable x = withEntries(1);
            due("NONE by NONE", APART, truths(x, fine, 0, seat));
            for (double v : new double[] {0, -1, NONE * 8, 1e30}) {
                value(x, fine, 0, seat, v);
                due(v + " by NONE", APART, truths(x, fine, 0, seat));
                x.clear(fine, 0, seat);
                limit(x, fine, seat, v);
                due("NONE by " + v, APART, truths(x, fine, 0, seat));
                x.clear(fine, NONE, seat);
            }
            value(x, fine, 0, seat, 1);
            limit(x, fine, seat, 1);
            due("1 by 1", EQUAL, truths(x, fine, 0, seat));
            x.clear(fine, 0, seat);
            x.clear(fine, NONE, seat);
            due("NONE by NONE behind 1 by 1", APART, truths(x, fine, 0, seat));
        }
    }

    private static void closeNumbers(boolean fine) {
        for (double v : new double[] {0, 1, -1, 0.125, -8, 1024, 1e30, -1e-30}) {
            double plain = fine ? v : (float) v;
            double above = fine ? Math.nextUp(plain) : Math.nextUp((float) plain);
            double below = fine ? Math.nextDown(plain) : Math.nextDown((float) plain);
            due(plain + " by itself", EQUAL, truthsOf(fine, plain, plain));
            due(plain + " by the next one", LESS, truthsOf(fine, plain, above));
            due(plain + " by the one before", GREATER, truthsOf(fine, plain, below));
            due(above + " by the one before", GREATER, truthsOf(fine, above, plain));
        }
        due("-9 by -8", LESS, truthsOf(fine, -9, -8));
        due("-9 by 8", LESS, truthsOf(fine, -9, 8));
    }

    private static String truthsOf(boolean fine, double v, double b) {
        JuryTable x = withEntries(1);
        value(x, fine, 0, 0, v);
        limit(x, fine, 0, b);
        return truths(x, fine, 0, 0);
    }

    private static void zerosAlike(boolean fine) {
        due("0 by -0", EQUAL, truthsOf(fine, 0.0, -0.0));
        due("-0 by 0", EQUAL, truthsOf(fine, -0.0, 0.0));
        due("-0 by -0", EQUAL, truthsOf(fine, -0.0, -0.0));
        due("strict places of -0, 0", "01", places(column(fine, 0, -0.0, 0.0), fine, true));
        due("places of 0, -0", "10", places(column(fine, 0, 0.0, -0.0), fine, false));
        JuryTable x = column(fine, 0, -0.0, 0.0);
        due("best() of -0, 0 by greater", 0, x.best(fine, 0, 0));
        due("best() of -0, 0 by not less or equal", 0, x.best(fine, 0, 1));
        due("best() of 0, -0 by not less", 1, column(fine, 0, 0.0, -0.0).best(fine, 0, 2));
        due("against() of -0 and 0, equal", 1, x.against(fine, 0, 1, 2));
        due("told() of -0", 0L, told(x, fine, 0, 0));
        due("clear() of -0", true, x.clear(fine, 0, 0));
    }

    /** Six ways from the first one on, of what is less, equal, greater and NONE. */
    private static void ways(boolean fine, int first) {
        due("1 by 2", LESS.substring(first, first + 6), truthsOf(fine, 1, 2).substring(first, first + 6));
        due("2 by 2", EQUAL.substring(first, first + 6), truthsOf(fine, 2, 2).substring(first, first + 6));
        due("3 by 2", GREATER.substring(first, first + 6), truthsOf(fine, 3, 2).substring(first, first + 6));
        String none = truths(withEntries(1), fine, 0, 0);
        due("NONE by NONE", APART.substring(first, first + 6), none.substring(first, first + 6));
    }

    /** The tests of the single calls look at the state, too; here all of them come to one object. */
    private static void refusedEverywhere() {
        JuryTable x = filled(ENTRIES);
        String before = state(x);
        Call[] calls = {
            JuryTable::entry, y -> value(y, true, 6, 0, 1), y -> value(y, false, 0, 5, 1),
            y -> limit(y, true, 5, 1), y -> limit(y, false, -1, 1), y -> y.clear(true, NONE, 5),
            y -> y.clear(false, 6, 0), y -> y.holds(true, 0, 0, 24), y -> y.tally(true, 0, -1),
            y -> y.run(false, 0, 6, 0), y -> y.keep(true, 0, 0, 24), y -> y.keep(true, 0, 1, 24),
            y -> y.keep(true, 0, 2, 24), y -> y.keep(false, 5, 5, 0), y -> y.keep(false, 4, -1, 5),
            y -> y.kept(true, 6, 0), y -> y.place(true, 6, 0, true), y -> y.best(false, 0, 4),
            y -> y.against(true, 0, 0, 5), y -> y.told(true, NONE, 3), y -> y.sum(true, NONE),
            y -> y.count(9)};
        for (int i = 0; i < calls.length; i++) {
            due("whether wrong call " + i + " throws", true, answer(x, calls[i]) instanceof Class<?>);
        }
        due("the state behind all wrong calls", before, state(x));
    }

    private static void firstException() {
        for (boolean fine : BOTH) {
            for (int entries : new int[] {0, 1, ENTRIES}) {
                firstOfWays(fine, entries);
                refused(entries, "best() at no seat by no how", NO_SUCH, x -> x.best(fine, 5, 4));
                refused(entries, "best() at seat -1 by how -1", NO_SUCH, x -> x.best(fine, -1, -1));
                refused(entries, "against() of no a by no what", NO_SUCH, x -> x.against(fine, entries, 0, 5));
                refused(entries, "against() of no b by no what", NO_SUCH, x -> x.against(fine, 0, entries, -1));
                refused(entries, "told() at no seat", NO_SUCH, x -> x.told(fine, NONE, 5));
                refused(entries, "told() of no entry", NO_SUCH, x -> x.told(fine, entries, 3));
            }
            due("told() of no seat of NONEs", NO_SUCH, told(withEntries(2), fine, 0, 5));
            due("told() of no entry beside NONEs", NO_SUCH, told(withEntries(2), fine, 2, 0));
            due("told() of no limit of NONEs", NO_SUCH, told(withEntries(0), fine, NONE, -1));
        }
    }

    private static void firstOfWays(boolean fine, int entries) {
        for (int way : WRONG_WAYS) {
            refused(entries, "holds() of no entry by " + way, NO_SUCH, x -> x.holds(fine, entries, 0, way));
            refused(entries, "holds() at no seat by " + way, NO_SUCH, x -> x.holds(fine, 0, 5, way));
            refused(entries, "tally() of no entry by " + way, NO_SUCH, x -> x.tally(fine, entries, way));
            refused(entries, "run() of no entry by " + way, NO_SUCH, x -> x.run(fine, entries, 5, way));
            refused(entries, "run() from 6 by " + way, NO_SUCH, x -> x.run(fine, 0, 6, way));
            refused(entries, "keep() of no entry by " + way, NO_SUCH, x -> x.keep(fine, entries, 0, way));
            refused(entries, "keep() at no seat by " + way, NO_SUCH, x -> x.keep(fine, 0, -1, way));
        }
    }

    private static void eightTimes(boolean fine) {
        JuryTable x = withEntries(ENTRIES);
        for (long eighths : new long[] {0, 1, -1, 7, 8, -8, 9, 1 << 23, -(1 << 23), (1 << 24) - 1}) {
            value(x, fine, 5, 4, eighths / 8.0);
            limit(x, fine, 4, -eighths / 8.0);
            due("told() of " + eighths + " eighths", eighths, told(x, fine, 5, 4));
            due("told() of a limit of " + -eighths + " eighths", -eighths, told(x, fine, NONE, 4));
            due("sum() of " + eighths + " eighths", eighths, x.sum(fine, 5));
        }
    }

    private static void askingChangesNothing() {
        for (boolean fine : BOTH) {
            Call[] questions = {
                y -> y.holds(fine, 0, 0, 5), y -> y.tally(fine, 1, 5), y -> y.run(fine, 2, 0, 5),
                y -> y.kept(fine, 3, 1), y -> y.place(fine, 4, 2, true), y -> y.place(fine, 5, 2, false),
                y -> y.best(fine, 3, 1), y -> y.against(fine, 0, 5, 4), y -> y.told(fine, 0, 0),
                y -> y.sum(fine, 5), y -> y.count(7)};
            for (int i = 0; i < questions.length; i++) {
                JuryTable x = filled(ENTRIES);
                String before = state(x);
                Object first = answer(x, questions[i]);
                due("the state behind question " + i, before, state(x));
                due("question " + i + " once more", first, answer(x, questions[i]));
            }
        }
    }

    // Promise 1

    private static void newObject() {
        JuryTable used = filled(ENTRIES);
        String before = state(used);
        JuryTable x = new JuryTable();
        due("the counts", "[0, 0, 0, 0, 0, 0, 0, 0, 0]", counts(x));
        for (boolean fine : BOTH) {
            for (int seat = 0; seat < SEATS; seat++) {
                due("told() of limit " + seat, STATE, told(x, fine, NONE, seat));
                due("clear() of limit " + seat, false, x.clear(fine, NONE, seat));
                due("told() of entry 0", NO_SUCH, told(x, fine, 0, seat));
            }
        }
        due("entry()", 0, x.entry());
        due("the state of the table before it", before, state(used));
    }

    // Promise 2

    private static void entryNumbers() {
        JuryTable x = new JuryTable();
        for (int entry = 0; entry < ENTRIES; entry++) {
            due("entry()", entry, x.entry());
            due("count(0)", entry + 1, x.count(0));
            x.mark(entry, 0, entry);
        }
        for (int entry = 0; entry < ENTRIES; entry++) {
            due("the mark of entry " + entry, 8L * entry, told(x, true, entry, 0));
        }
    }

    private static void seventhEntry() {
        refused(ENTRIES, "entry()", STATE, JuryTable::entry);
        JuryTable x = withEntries(ENTRIES);
        for (int i = 0; i < 3; i++) {
            due("entry() behind the last", STATE, answer(x, JuryTable::entry));
        }
        due("count(0)", ENTRIES, x.count(0));
        due("the sixth entry() alone", 5, withEntries(5).entry());
    }

    // Promises 3 to 6

    /** What the table of told() looks like behind one change to a full one, and nothing else is touched. */
    private static void onlyThisChanges(String call, boolean fine, int entry, int seat, Object want, Call change) {
        JuryTable x = filled(ENTRIES);
        Object[] before = toldEverywhere(x);
        change.on(x);
        Object[] after = toldEverywhere(x);
        int changed = ((fine ? 0 : ENTRIES + 1) + entry + 1) * SEATS + seat;
        for (int i = 0; i < before.length; i++) {
            due("told() at " + i + " behind " + call, i == changed ? want : before[i], after[i]);
        }
    }

    private static Object[] toldEverywhere(JuryTable x) {
        Object[] all = new Object[2 * (ENTRIES + 1) * SEATS];
        int next = 0;
        for (boolean fine : BOTH) {
            for (int entry = NONE; entry < ENTRIES; entry++) {
                for (int seat = 0; seat < SEATS; seat++) {
                    all[next++] = told(x, fine, entry, seat);
                }
            }
        }
        return all;
    }

    private static void onlyThatValue(boolean fine) {
        for (int entry = 0; entry < ENTRIES; entry++) {
            for (int seat = 0; seat < SEATS; seat++) {
                final int e = entry;
                final int s = seat;
                onlyThisChanges("a value of " + e + " at " + s, fine, e, s, 800L, x -> value(x, fine, e, s, 100));
            }
        }
        onlyThisChanges("a value of 0", fine, 0, 0, 0L, x -> value(x, fine, 0, 0, 0));
        onlyThisChanges("a value of -1", fine, 5, 4, -8L, x -> value(x, fine, 5, 4, NONE));
    }

    private static void onlyThatLimit(boolean fine) {
        for (int seat = 0; seat < SEATS; seat++) {
            final int s = seat;
            onlyThisChanges("a limit of " + s, fine, NONE, s, 800L, x -> limit(x, fine, s, 100));
            onlyThisChanges("a limit of -1 of " + s, fine, NONE, s, -8L, x -> limit(x, fine, s, NONE));
            JuryTable x = new JuryTable();
            limit(x, fine, seat, 0);
            due("a limit without entries", 0L, told(x, fine, NONE, seat));
        }
    }

    private static void valueOfNoEntry(boolean fine) {
        for (int seat : new int[] {0, 1, 4}) {
            noEntry("a value at " + seat, true, (x, entry) -> value(x, fine, entry, seat, 1));
        }
    }

    private static void valueAtNoSeat(boolean fine) {
        for (int entry = 0; entry < ENTRIES; entry++) {
            final int e = entry;
            noNumber(ENTRIES, "a value of " + e + " at", WRONG_SEATS, NO_SUCH,
                    (x, seat) -> value(x, fine, e, seat, 1));
        }
    }

    private static void limitOfNoSeat(boolean fine) {
        for (int entries : new int[] {0, 3, ENTRIES}) {
            noNumber(entries, "a limit of", WRONG_SEATS, NO_SUCH, (x, seat) -> limit(x, fine, seat, 1));
        }
    }

    // Promise 7

    private static void onlyThatValueCleared(boolean fine) {
        for (int entry = 0; entry < ENTRIES; entry++) {
            for (int seat = 0; seat < SEATS; seat++) {
                final int e = entry;
                final int s = seat;
                onlyThisChanges("clear() of " + e + " at " + s, fine, e, s, STATE, x -> x.clear(fine, e, s));
            }
        }
    }

    private static void onlyThatLimitCleared(boolean fine) {
        for (int seat = 0; seat < SEATS; seat++) {
            final int s = seat;
            onlyThisChanges("clear() of limit " + s, fine, NONE, s, STATE, x -> x.clear(fine, NONE, s));
            JuryTable x = new JuryTable();
            limit(x, fine, seat, 1);
            due("clear() of a limit without entries", true, x.clear(fine, NONE, seat));
            due("clear() of a clear limit without entries", false, x.clear(fine, NONE, seat));
        }
    }

    private static void wasNumber(boolean fine) {
        JuryTable x = withEntries(1);
        due("clear() of what never was", false, x.clear(fine, 0, 0));
        due("clear() of a limit that never was", false, x.clear(fine, NONE, 0));
        for (double v : new double[] {0.0, -0.0, 1, NONE, -0.125}) {
            value(x, fine, 0, 0, v);
            due("clear() beside " + v, false, x.clear(fine, NONE, 0));
            due("clear() of " + v, true, x.clear(fine, 0, 0));
            due("clear() of " + v + " once more", false, x.clear(fine, 0, 0));
            limit(x, fine, 0, v);
            due("clear() beside limit " + v, false, x.clear(fine, 0, 0));
            due("clear() of limit " + v, true, x.clear(fine, NONE, 0));
            due("clear() of limit " + v + " once more", false, x.clear(fine, NONE, 0));
        }
    }

    private static void clearOfNoEntry(boolean fine) {
        for (int seat : new int[] {0, 1, 4}) {
            noEntry("clear() at " + seat, false, (x, entry) -> x.clear(fine, entry, seat));
        }
    }

    private static void clearAtNoSeat(boolean fine) {
        for (int entry = NONE; entry < ENTRIES; entry++) {
            final int e = entry;
            noNumber(ENTRIES, "clear() of " + e + " at", WRONG_SEATS, NO_SUCH, (x, seat) -> x.clear(fine, e, seat));
        }
        noNumber(0, "clear() of a limit, empty, at", WRONG_SEATS, NO_SUCH, (x, seat) -> x.clear(fine, NONE, seat));
    }

    // Promise 8

    private static void holdsAtItsOwnSeat(boolean fine) {
        for (int entry : new int[] {0, 5}) {
            for (int seat : new int[] {0, 4}) {
                JuryTable x = filled(ENTRIES);
                value(x, fine, entry, seat, 3);
                limit(x, fine, seat, 3);
                due("3 by 3 of " + entry + " at " + seat, EQUAL, truths(x, fine, entry, seat));
                limit(x, fine, seat, 3.125);
                due("3 by 3.125 of " + entry + " at " + seat, LESS, truths(x, fine, entry, seat));
                limit(x, fine, seat, 2.875);
                due("3 by 2.875 of " + entry + " at " + seat, GREATER, truths(x, fine, entry, seat));
            }
        }
    }

    private static void holdsOfNoEntry(boolean fine) {
        noEntry("holds()", true, (x, entry) -> x.holds(fine, entry, 0, 0));
        noEntry("holds()", true, (x, entry) -> x.holds(fine, entry, 4, 23));
    }

    private static void holdsAtNoSeat(boolean fine) {
        noNumber(ENTRIES, "holds() of 0 at", WRONG_SEATS, NO_SUCH, (x, seat) -> x.holds(fine, 0, seat, 0));
        noNumber(ENTRIES, "holds() of 5 at", WRONG_SEATS, NO_SUCH, (x, seat) -> x.holds(fine, 5, seat, 23));
    }

    private static void holdsByNoWay(boolean fine) {
        noNumber(1, "holds() by", WRONG_WAYS, ARGUMENT, (x, way) -> x.holds(fine, 0, 0, way));
        noNumber(ENTRIES, "holds() by", WRONG_WAYS, ARGUMENT, (x, way) -> x.holds(fine, 5, 4, way));
        due("holds() by 0", false, filled(1).holds(fine, 0, 3, 0));
        due("holds() by 23", false, filled(1).holds(fine, 0, 3, 23));
    }

    // Promise 9

    private static void tallyOfNoneToAll(boolean fine) {
        JuryTable x = withEntries(ENTRIES);
        for (int seat = 0; seat < SEATS; seat++) {
            limit(x, fine, seat, 1);
        }
        for (int seats = 0; seats <= SEATS; seats++) {
            int left = SEATS - seats;
            due("tally() by == of " + seats, seats, x.tally(fine, 5, 4));
            due("tally() by != of " + seats, left, x.tally(fine, 5, 5));
            due("tally() by not == of " + seats, left, x.tally(fine, 5, 10));
            due("tally() by < of " + seats, 0, x.tally(fine, 5, 0));
            due("tally() by not > on the left of " + seats, SEATS, x.tally(fine, 5, 20));
            due("tally() by not != on the left of " + seats, seats, x.tally(fine, 5, 23));
            if (seats < SEATS) {
                // From the last seat on, so that both ends are looked at.
                value(x, fine, 5, left - 1, 1);
            }
        }
        due("tally() of the entry before it", 0, x.tally(fine, 4, 4));
    }

    private static void tallyOfNoEntry(boolean fine) {
        noEntry("tally() by 0", true, (x, entry) -> x.tally(fine, entry, 0));
        noEntry("tally() by 23", true, (x, entry) -> x.tally(fine, entry, 23));
    }

    private static void tallyByNoWay(boolean fine) {
        noNumber(1, "tally() of 0 by", WRONG_WAYS, ARGUMENT, (x, way) -> x.tally(fine, 0, way));
        noNumber(ENTRIES, "tally() of 5 by", WRONG_WAYS, ARGUMENT, (x, way) -> x.tally(fine, 5, way));
    }

    // Promise 10

    private static void runFromBehindAll(boolean fine) {
        JuryTable x = withEntries(2);
        for (int way = 0; way < 24; way++) {
            due("run() from 5 by " + way, 5, x.run(fine, 1, 5, way));
        }
        for (int from = 0; from < SEATS; from++) {
            due("run() from " + from + " by what is not so", from, x.run(fine, 1, from, 4));
            due("run() from " + from + " by what is so", 5, x.run(fine, 1, from, 5));
        }
    }

    private static void runStops(boolean fine) {
        for (int stop = 0; stop < SEATS; stop++) {
            JuryTable x = withEntries(1);
            limit(x, fine, stop, 1);
            value(x, fine, 0, stop, 1);
            for (int from = 0; from <= SEATS; from++) {
                due("run() from " + from + ", stopped at " + stop, from <= stop ? stop : 5, x.run(fine, 0, from, 5));
            }
        }
        JuryTable x = withEntries(1);
        for (int seat : new int[] {1, 3}) {
            limit(x, fine, seat, 1);
            value(x, fine, 0, seat, 1);
        }
        due("run() from 0, stopped at 1 and 3", 1, x.run(fine, 0, 0, 5));
        due("run() from 2, stopped at 1 and 3", 3, x.run(fine, 0, 2, 5));
        due("run() from 4, stopped at 1 and 3", 5, x.run(fine, 0, 4, 5));
    }

    private static void runThrough(boolean fine) {
        JuryTable x = withEntries(ENTRIES);
        for (int seat = 0; seat < SEATS; seat++) {
            limit(x, fine, seat, 1);
            value(x, fine, 5, seat, 2);
        }
        for (int from = 0; from <= SEATS; from++) {
            due("run() of the last entry from " + from, 5, x.run(fine, 5, from, 2));
            due("run() of the first entry from " + from, from, x.run(fine, 0, from, 2));
        }
    }

    private static void runOfNoEntry(boolean fine) {
        noEntry("run() from 0", true, (x, entry) -> x.run(fine, entry, 0, 0));
        noEntry("run() from 5", true, (x, entry) -> x.run(fine, entry, 5, 23));
    }

    private static void runFromNowhere(boolean fine) {
        noNumber(1, "run() of 0 from", WRONG_STARTS, NO_SUCH, (x, from) -> x.run(fine, 0, from, 5));
        noNumber(ENTRIES, "run() of 5 from", WRONG_STARTS, NO_SUCH, (x, from) -> x.run(fine, 5, from, 5));
    }

    private static void runByNoWay(boolean fine) {
        for (int from = 0; from <= SEATS; from++) {
            final int f = from;
            noNumber(ENTRIES, "run() from " + f + " by", WRONG_WAYS, ARGUMENT, (x, way) -> x.run(fine, 5, f, way));
        }
    }

    // Promise 11

    private static void keptAnew(boolean fine) {
        JuryTable x = withEntries(ENTRIES);
        int[] ways = {5, 4, 4, 11, 6, 6, 23, 0, 22};
        boolean[] so = {true, false, false, false, true, true, false, false, true};
        for (int i = 0; i < ways.length; i++) {
            due("keep() by " + ways[i], so[i], x.keep(fine, 5, 4, ways[i]));
            due("kept() of " + ways[i], so[i] ? 1 : 0, x.kept(fine, 5, 4));
            due("truths that are so", so[i] ? 1 : 0, x.count(7));
            due("truths that are not so", so[i] ? 0 : 1, x.count(8));
        }
        due("kept() at the other seats", NONE, x.kept(!fine, 5, 4));
        due("kept() beside it", NONE, x.kept(fine, 5, 3));
    }

    private static void keepOfNoEntry(boolean fine) {
        noEntry("keep()", true, (x, entry) -> x.keep(fine, entry, 0, 0));
        noEntry("keep()", true, (x, entry) -> x.keep(fine, entry, 1, 5));
        noEntry("keep()", true, (x, entry) -> x.keep(fine, entry, 4, 23));
    }

    private static void keepAtNoSeat(boolean fine) {
        for (int entry = 0; entry < ENTRIES; entry++) {
            final int e = entry;
            noNumber(ENTRIES, "keep() of " + e + " at", WRONG_SEATS, NO_SUCH, (x, seat) -> x.keep(fine, e, seat, 5));
        }
    }

    private static void keepByNoWay(boolean fine) {
        for (int seat = 0; seat < SEATS; seat++) {
            final int s = seat;
            noNumber(ENTRIES, "keep() at " + s + " by", WRONG_WAYS, ARGUMENT, (x, way) -> x.keep(fine, 5, s, way));
        }
    }

    // Promise 12

    private static void keptWhateverComes(boolean fine) {
        JuryTable x = withEntries(2);
        value(x, fine, 1, 4, 1);
        limit(x, fine, 4, 1);
        x.keep(fine, 1, 4, 4);
        value(x, fine, 1, 4, 2);
        due("kept() behind another value", 1, x.kept(fine, 1, 4));
        limit(x, fine, 4, 3);
        due("kept() behind another limit", 1, x.kept(fine, 1, 4));
        x.clear(fine, 1, 4);
        due("kept() behind a cleared value", 1, x.kept(fine, 1, 4));
        x.clear(fine, NONE, 4);
        due("kept() behind a cleared limit", 1, x.kept(fine, 1, 4));
        x.entry();
        due("kept() behind an entry", 1, x.kept(fine, 1, 4));
        due("holds() by now", false, x.holds(fine, 1, 4, 4));
        due("kept() behind holds()", 1, x.kept(fine, 1, 4));
    }

    private static void keptAnswers(boolean fine) {
        JuryTable x = withEntries(ENTRIES);
        for (int entry = 0; entry < ENTRIES; entry++) {
            for (int seat = 0; seat < SEATS; seat++) {
                due("kept() of nothing", NONE, x.kept(fine, entry, seat));
                due("keep() of what is so", true, x.keep(fine, entry, seat, 5));
                due("kept() of what is so", 1, x.kept(fine, entry, seat));
                due("keep() of what is not so", false, x.keep(fine, entry, seat, 4));
                due("kept() of what is not so", 0, x.kept(fine, entry, seat));
                due("kept() of nothing at the other seats", NONE, x.kept(!fine, entry, seat));
            }
        }
    }

    private static void keptOfNoEntry(boolean fine) {
        noEntry("kept() at 0", true, (x, entry) -> x.kept(fine, entry, 0));
        noEntry("kept() at 1", true, (x, entry) -> x.kept(fine, entry, 1));
        noEntry("kept() at 4", true, (x, entry) -> x.kept(fine, entry, 4));
    }

    private static void keptAtNoSeat(boolean fine) {
        noNumber(ENTRIES, "kept() of 0 at", WRONG_SEATS, NO_SUCH, (x, seat) -> x.kept(fine, 0, seat));
        noNumber(ENTRIES, "kept() of 3 at", WRONG_SEATS, NO_SUCH, (x, seat) -> x.kept(fine, 3, seat));
        noNumber(ENTRIES, "kept() of 5 at", WRONG_SEATS, NO_SUCH, (x, seat) -> x.kept(fine, 5, seat));
    }

    // Promise 13

    private static String places(JuryTable x, boolean fine, boolean strict) {
        StringBuilder text = new StringBuilder();
        for (int entry = 0; entry < x.count(0); entry++) {
            text.append(x.place(fine, entry, 0, strict));
        }
        return text.toString();
    }

    private static void placesDue(boolean fine, boolean strict, String want, Double... values) {
        JuryTable x = column(fine, 0, values);
        due("places of " + Arrays.toString(values), want, places(x, fine, strict));
    }

    private static void placesFromZero(boolean fine) {
        for (boolean strict : BOTH) {
            placesDue(fine, strict, "0", (Double) null);
            placesDue(fine, strict, "0", 1.0);
            placesDue(fine, strict, "543210", 1.0, 2.0, 3.0, 4.0, 5.0, 6.0);
            placesDue(fine, strict, "012345", 6.0, 5.0, 4.0, 3.0, 2.0, 1.0);
            placesDue(fine, strict, "123450", 6.0, 5.0, 4.0, 3.0, 2.0, 7.0);
        }
        JuryTable x = column(fine, 0, 1.0);
        due("place() of the only entry", 0, x.place(fine, 0, 0, true));
        x.entry();
        value(x, fine, 1, 0, 2);
        due("place() behind a greater one that came", 1, x.place(fine, 0, 0, true));
        x.clear(fine, 1, 0);
        due("place() behind one that abstains by now", 0, x.place(fine, 0, 0, true));
    }

    private static void strictPlaces(boolean fine) {
        placesDue(fine, true, "10", 1.0, 1.125);
        placesDue(fine, true, "01", 1.0, 1.0);
        placesDue(fine, true, "012345", 1.0, 1.0, 1.0, 1.0, 1.0, 1.0);
        placesDue(fine, true, "012345", null, null, null, null, null, null);
        placesDue(fine, true, "01", null, 1.0);
        placesDue(fine, true, "01", 1.0, null);
        // What abstains stops a greater one, though lesser ones stand ahead of it.
        placesDue(fine, true, "012", 1.0, null, 2.0);
        placesDue(fine, true, "0132", 1.0, null, 2.0, 3.0);
        placesDue(fine, true, "1023", 1.0, 2.0, null, 3.0);
    }

    private static void loosePlaces(boolean fine) {
        placesDue(fine, false, "01", 1.125, 1.0);
        placesDue(fine, false, "10", 1.0, 1.0);
        placesDue(fine, false, "543210", 1.0, 1.0, 1.0, 1.0, 1.0, 1.0);
        placesDue(fine, false, "543210", null, null, null, null, null, null);
        placesDue(fine, false, "10", null, 1.0);
        placesDue(fine, false, "10", 1.0, null);
        placesDue(fine, false, "210", 2.0, null, 3.0);
        // What abstains passes 2, and 1 stops behind 2.
        placesDue(fine, false, "102", 2.0, null, 1.0);
        // All pass what abstains, and -1 stops right ahead of it, behind 1.
        placesDue(fine, false, "3102", null, 1.0, 2.0, -1.0);
    }

    private static void placeOfNoEntry(boolean fine) {
        noEntry("place(), strict,", true, (x, entry) -> x.place(fine, entry, 0, true));
        noEntry("place()", true, (x, entry) -> x.place(fine, entry, 4, false));
    }

    private static void placeAtNoSeat(boolean fine) {
        noNumber(ENTRIES, "place() of 0 by", WRONG_SEATS, NO_SUCH, (x, seat) -> x.place(fine, 0, seat, true));
        noNumber(ENTRIES, "place() of 5 by", WRONG_SEATS, NO_SUCH, (x, seat) -> x.place(fine, 5, seat, false));
    }

    // Promise 14

    private static void bestOfOne(boolean fine) {
        for (int how = 0; how < 4; how++) {
            due("best() of one number by " + how, 0, column(fine, 4, -1.0).best(fine, 4, how));
            due("best() of one NONE by " + how, 0, withEntries(1).best(fine, 4, how));
        }
    }

    /** By each how: 0 greater, 1 not less or equal, 2 not less, 3 greater or equal. */
    private static void bests(boolean fine, int how) {
        bestDue(fine, how, "1111", 1.0, 1.125);
        bestDue(fine, how, "0000", 1.125, 1.0);
        bestDue(fine, how, "0011", 1.0, 1.0);
        bestDue(fine, how, "0110", null, 1.0);
        bestDue(fine, how, "0110", 1.0, null);
        bestDue(fine, how, "0550", null, null, null, null, null, null);
        bestDue(fine, how, "0055", 2.0, 2.0, 2.0, 2.0, 2.0, 2.0);
        bestDue(fine, how, "5555", 1.0, 2.0, 3.0, 4.0, 5.0, 6.0);
        bestDue(fine, how, "0000", 6.0, 5.0, 4.0, 3.0, 2.0, 1.0);
        // A less one is best where one that abstains came between.
        bestDue(fine, how, "0220", 9.0, null, 1.0);
        bestDue(fine, how, "3333", 9.0, null, 1.0, 10.0);
    }

    private static void bestDue(boolean fine, int how, String wantByHow, Double... values) {
        for (int seat : new int[] {0, 4}) {
            JuryTable x = column(fine, seat, values);
            int want = wantByHow.charAt(how) - '0';
            due("best() of " + Arrays.toString(values) + " by " + how, want, x.best(fine, seat, how));
        }
    }

    private static void bestOfNothing(boolean fine) {
        for (int seat = 0; seat < SEATS; seat++) {
            for (int how = 0; how < 4; how++) {
                due("best() without entries by " + how, NONE, new JuryTable().best(fine, seat, how));
                due("best() of limits alone by " + how, NONE, filled(0).best(fine, seat, how));
            }
        }
    }

    private static void bestAtNoSeat(boolean fine) {
        for (int entries : new int[] {0, 1, ENTRIES}) {
            noNumber(entries, "best() at", WRONG_SEATS, NO_SUCH, (x, seat) -> x.best(fine, seat, 0));
        }
    }

    private static void bestByNoHow(boolean fine) {
        int[] hows = {-1, 4, 5, -4, 256, 65536, MIN, MAX};
        for (int entries : new int[] {0, 1, ENTRIES}) {
            noNumber(entries, "best() by how", hows, ARGUMENT, (x, how) -> x.best(fine, 0, how));
            noNumber(entries, "best() at 4 by how", hows, ARGUMENT, (x, how) -> x.best(fine, 4, how));
        }
    }

    // Promise 15

    private static void againsts(boolean fine, int what) {
        JuryTable x = withEntries(ENTRIES);
        againstDue(x, fine, what, "00055", 0, 5);
        row(x, fine, 0, 1.125, 1.0, 1.0, null, 1.0);
        row(x, fine, 5, 1.0, 1.125, 1.0, 1.0, null);
        againstDue(x, fine, what, "11123", 0, 5);
        againstDue(x, fine, what, "11123", 5, 0);
        againstDue(x, fine, what, "00415", 0, 0);
        row(x, fine, 1, 2.0, 2.0, 2.0, 2.0, 2.0);
        row(x, fine, 2, 3.0, 3.0, 3.0, 3.0, 3.0);
        againstDue(x, fine, what, "05000", 1, 2);
        againstDue(x, fine, what, "50000", 2, 1);
        againstDue(x, fine, what, "00505", 2, 2);
        againstDue(x, fine, what, "00055", 3, 3);
        againstDue(x, fine, what, "00055", 1, 3);
        row(x, fine, 3, null, null, null, null, 2.125);
        againstDue(x, fine, what, "01044", 1, 3);
        againstDue(x, fine, what, "10044", 3, 1);
    }

    private static void againstDue(JuryTable x, boolean fine, int what, String wantByWhat, int a, int b) {
        int want = wantByWhat.charAt(what) - '0';
        due("against() of " + a + " and " + b + ", what " + what, want, x.against(fine, a, b, what));
    }

    private static void againstNoEntry(boolean fine) {
        noEntry("against() of a, with b 0,", true, (x, entry) -> x.against(fine, entry, 0, 0));
        noEntry("against() of b, with a 0,", true, (x, entry) -> x.against(fine, 0, entry, 4));
        noEntry("against() of a and b", true, (x, entry) -> x.against(fine, entry, entry, 3));
    }

    private static void againstByNoWhat(boolean fine) {
        int[] whats = {-1, 5, 6, -5, 256, 65536, MIN, MAX};
        noNumber(1, "against() of 0 and 0, what", whats, ARGUMENT, (x, what) -> x.against(fine, 0, 0, what));
        noNumber(ENTRIES, "against() of 5 and 0, what", whats, ARGUMENT, (x, what) -> x.against(fine, 5, 0, what));
    }

    // Promise 16

    private static void toldLimits(boolean fine) {
        for (int seat = 0; seat < SEATS; seat++) {
            JuryTable x = new JuryTable();
            limit(x, fine, seat, seat + 0.125);
            due("told() of limit " + seat, 8L * seat + 1, told(x, fine, NONE, seat));
            due("told() of the other limit " + seat, STATE, told(x, !fine, NONE, seat));
            x.entry();
            value(x, fine, 0, seat, 100);
            due("told() of limit " + seat + " beside a value", 8L * seat + 1, told(x, fine, NONE, seat));
        }
    }

    private static void toldOfNoEntry(boolean fine) {
        for (int seat : new int[] {0, 1, 4}) {
            noEntry("told() at " + seat, false, (x, entry) -> x.told(fine, entry, seat));
        }
    }

    private static void toldAtNoSeat(boolean fine) {
        for (int entry = NONE; entry < ENTRIES; entry++) {
            final int e = entry;
            noNumber(ENTRIES, "told() of " + e + " at", WRONG_SEATS, NO_SUCH, (x, seat) -> x.told(fine, e, seat));
        }
        noNumber(0, "told() of a limit, empty, at", WRONG_SEATS, NO_SUCH, (x, seat) -> x.told(fine, NONE, seat));
    }

    private static void toldOfNone(boolean fine) {
        for (int entry = 0; entry < ENTRIES; entry++) {
            for (int seat = 0; seat < SEATS; seat++) {
                final int e = entry;
                final int s = seat;
                if (!hasNumber(entry, seat)) {
                    refused(ENTRIES, "told() of " + e + " at " + s, STATE, x -> x.told(fine, e, s));
                }
                JuryTable x = filled(ENTRIES);
                x.clear(fine, entry, seat);
                due("told() of cleared " + e + " at " + s, STATE, told(x, fine, entry, seat));
            }
        }
        refused(ENTRIES, "told() of limit 3", STATE, x -> x.told(fine, NONE, 3));
        refused(0, "told() of limit 3", STATE, x -> x.told(fine, NONE, 3));
        JuryTable x = column(fine, 0, -0.0, (double) NONE);
        due("told() of a number that is -0", 0L, told(x, fine, 0, 0));
        due("told() of a number that is -1", -8L, told(x, fine, 1, 0));
    }

    // Promise 17

    private static void sumOfNumbers(boolean fine) {
        JuryTable x = withEntries(ENTRIES);
        long want = 0;
        for (int seat = SEATS - 1; seat >= 0; seat--) {
            value(x, fine, 5, seat, (1 << seat) / 8.0);
            want += 1L << seat;
            due("sum() from seat " + seat + " on", want, x.sum(fine, 5));
        }
        x.clear(fine, 5, 2);
        due("sum() where seat 2 abstains", 27L, x.sum(fine, 5));
        limit(x, fine, 2, 100);
        due("sum() beside a limit", 27L, x.sum(fine, 5));
        due("sum() at the other seats", 0L, x.sum(!fine, 5));
        due("sum() of the entry before it", 0L, x.sum(fine, 4));
        row(x, fine, 0, -1.0, 1.0, -0.125, 0.0, -2.0);
        due("sum() below 0", -17L, x.sum(fine, 0));
        row(x, fine, 1, 16777216.0, 1.0, 1.0, 1.0, -16777216.0);
        due("sum() where a float would lose the ones", 24L, x.sum(fine, 1));
        row(x, fine, 2, 16777215.0, 16777215.0, 16777215.0, 16777215.0, 16777215.0);
        due("sum() of five great ones", 40L * 16777215, x.sum(fine, 2));
    }

    /** What is told is the sum: that no long holds the eighths of a value does not matter. */
    private static void sumOfOpposites(boolean fine) {
        int greatest = fine ? 1023 : 127;
        for (int power = -3; power <= greatest; power++) {
            double great = Math.scalb(1.0, power);
            JuryTable x = withEntries(ENTRIES);
            row(x, fine, 0, great, -great);
            row(x, fine, 1, -great, -great, 0.125, great, great);
            row(x, fine, 2, -0.125, great, great, -great, -great);
            due("sum() of 2^" + power + " and its opposite", 0L, x.sum(fine, 0));
            due("sum() of two such pairs and 1/8", 1L, x.sum(fine, 1));
            due("sum() of two such pairs and -1/8", -1L, x.sum(fine, 2));
        }
    }

    private static void sumWithoutAny(boolean fine) {
        for (int entry = 0; entry < ENTRIES; entry++) {
            due("sum() of a new entry " + entry, 0L, withEntries(ENTRIES).sum(fine, entry));
            JuryTable x = filled(ENTRIES);
            for (int seat = 0; seat < SEATS; seat++) {
                x.clear(fine, entry, seat);
            }
            due("sum() of a cleared entry " + entry, 0L, x.sum(fine, entry));
        }
    }

    private static void sumOfNoEntry(boolean fine) {
        noEntry("sum()", true, (x, entry) -> x.sum(fine, entry));
    }

    // Promise 18

    private static void countOfEntries() {
        for (int entries = 0; entries <= ENTRIES; entries++) {
            due("count(0)", entries, withEntries(entries).count(0));
        }
        JuryTable x = withEntries(ENTRIES);
        answer(x, JuryTable::entry);
        due("count(0) behind a refused entry", ENTRIES, x.count(0));
    }

    private static void countOfNumbers() {
        for (boolean fine : BOTH) {
            int what = fine ? 1 : 2;
            JuryTable x = withEntries(ENTRIES);
            for (int seat = 0; seat < SEATS; seat++) {
                limit(x, fine, seat, 0);
                limit(x, !fine, seat, 0);
            }
            int given = 0;
            for (int entry = 0; entry < ENTRIES; entry++) {
                for (int seat = 0; seat < SEATS; seat++) {
                    due("count() of numbers", given, x.count(what));
                    value(x, fine, entry, seat, 0);
                    given++;
                }
            }
            due("count() of all numbers", 30, x.count(what));
            due("count() of numbers of the other seats", 0, x.count(3 - what));
            value(x, fine, 5, 4, 1);
            due("count() behind a number once more", 30, x.count(what));
            x.clear(fine, 5, 4);
            due("count() behind clear()", 29, x.count(what));
            x.clear(fine, 5, 4);
            due("count() behind clear() once more", 29, x.count(what));
        }
    }

    private static void countOfAbstained() {
        for (boolean fine : BOTH) {
            int what = fine ? 3 : 4;
            JuryTable x = new JuryTable();
            due("count() of NONEs without entries", 0, x.count(what));
            for (int entries = 1; entries <= ENTRIES; entries++) {
                x.entry();
                due("count() of NONEs of new entries", entries * SEATS, x.count(what));
            }
            for (int entry = 0; entry < ENTRIES; entry++) {
                row(x, fine, entry, 0.0, 0.0, 0.0, 0.0, 0.0);
            }
            due("count() of NONEs of full entries", 0, x.count(what));
            due("count() of NONEs of the other seats", 30, x.count(7 - what));
            x.clear(fine, NONE, 0);
            due("count() of NONEs behind a cleared limit", 0, x.count(what));
            x.clear(fine, 0, 0);
            due("count() of NONEs behind clear()", 1, x.count(what));
        }
    }

    private static void countOfLimits() {
        for (boolean fine : BOTH) {
            int what = fine ? 5 : 6;
            JuryTable x = new JuryTable();
            for (int seat = 0; seat < SEATS; seat++) {
                due("count() of limits", seat, x.count(what));
                limit(x, fine, seat, 0);
            }
            due("count() of all limits", SEATS, x.count(what));
            due("count() of the other limits", 0, x.count(11 - what));
            limit(x, fine, 4, 1);
            due("count() behind a limit once more", SEATS, x.count(what));
            x.clear(fine, NONE, 4);
            due("count() behind a cleared limit", 4, x.count(what));
            x.entry();
            value(x, fine, 0, 4, 1);
            due("count() of limits beside a value", 4, x.count(what));
        }
    }

    private static void countOfTruths() {
        JuryTable x = withEntries(ENTRIES);
        int so = 0;
        for (int entry = 0; entry < ENTRIES; entry++) {
            for (int seat = 0; seat < SEATS; seat++) {
                for (boolean fine : BOTH) {
                    due("count(7)", so, x.count(7));
                    due("count(8)", 0, x.count(8));
                    x.keep(fine, entry, seat, 5);
                    so++;
                }
            }
        }
        due("count(7) of a full table", 60, x.count(7));
        x.keep(true, 5, 4, 4);
        x.keep(false, 5, 4, 4);
        due("count(7) behind two others", 58, x.count(7));
        due("count(8) behind two others", 2, x.count(8));
    }

    private static void countOfNothing() {
        int[] whats = {-1, 9, 10, -9, 256, 65536, MIN, MAX};
        noNumber(0, "count() of", whats, ARGUMENT, JuryTable::count);
        noNumber(ENTRIES, "count() of", whats, ARGUMENT, JuryTable::count);
    }
}
