import java.lang.reflect.InvocationTargetException;
import java.lang.reflect.Method;
import java.lang.reflect.Modifier;
import java.util.ArrayList;
import java.util.Comparator;
import java.util.List;

/**
 * What the classes of tests share. Each of their methods named after the terms, a part of them or a
 * promise is a test of its own: it prints every answer that is not the one that is due.
 */
abstract class Checks {
    static final long MIN = Long.MIN_VALUE;
    static final long MAX = Long.MAX_VALUE;
    static final int LEAST_INT = Integer.MIN_VALUE;
    static final int MOST_INT = Integer.MAX_VALUE;

    // Written out, not taken from the class, so that a wrong constant there is seen.
    static final int UNKNOWN = -101;
    static final int OUTSIDE = -102;
    static final int STATE = -103;
    static final int ROOM = -104;
    static final int MANY = -1;
    static final long LONG_UNKNOWN = -1000000101L;
    static final long LONG_OUTSIDE = -1000000102L;
    static final long LONG_STATE = -1000000103L;

    private static String test = "";
    private static int asked;
    private static int wrong;

    interface Call {
        long answer();
    }

    interface Ask {
        long answer(IndexRanges x);
    }

    interface AskOf {
        long answer(IndexRanges x, int number);
    }

    // ---- the run of a class's tests

    static void runTests(Class<?> tests) {
        List<Method> all = testsOf(tests);
        int failed = 0;
        for (Method m : all) {
            int before = wrong;
            test = m.getName();
            runTest(m);
            failed += wrong == before ? 0 : 1;
        }
        System.out.println(all.size() + " tests, " + failed + " failed; " + asked + " answers, " + wrong + " not as due");
        if (failed != 0 || all.isEmpty()) {
            System.exit(1);
        }
    }

    private static List<Method> testsOf(Class<?> tests) {
        List<Method> all = new ArrayList<>();
        for (Method m : tests.getDeclaredMethods()) {
            boolean named = m.getName().matches("(terms|part[1-3]|promise[0-9]+)[A-Z].*");
            if (named && Modifier.isStatic(m.getModifiers()) && m.getParameterCount() == 0) {
                all.add(m);
            }
        }
        all.sort(Comparator.comparing(Method::getName));
        return all;
    }

    private static void runTest(Method m) {
        try {
            m.setAccessible(true);
            m.invoke(null);
        } catch (InvocationTargetException e) {
            fail("threw " + e.getCause());
        } catch (IllegalAccessException e) {
            fail("can't be run: " + e);
        }
    }

    private static void fail(String text) {
        wrong++;
        System.out.println(test + ": " + text);
    }

    // ---- answers that are due

    static void due(String what, long want, long got) {
        asked++;
        if (got != want) {
            fail(what + " answered " + got + ", due is " + want);
        }
    }

    static void dueThrow(String what, Class<? extends RuntimeException> want, Call call) {
        asked++;
        String got;
        try {
            got = "answered " + call.answer();
        } catch (RuntimeException e) {
            if (e.getClass() == want) {
                return;
            }
            got = "threw " + e.getClass().getName();
        }
        fail(what + " " + got + ", due is " + want.getSimpleName());
    }

    static void dueOut(String what, Call call) {
        dueThrow(what, IndexOutOfBoundsException.class, call);
    }

    static void dueMiss(String what, IndexRanges x, int single, int number, int depth) {
        due(what + ": miss(0)", single, x.miss(0));
        due(what + ": miss(1)", number, x.miss(1));
        due(what + ": miss(2)", depth, x.miss(2));
    }

    static void dueHand(String what, IndexRanges x, long... numbers) {
        for (int k = 0; k < numbers.length; k++) {
            due(what + ": held(" + k + ")", numbers[k], x.held(k));
        }
    }

    /** The whole row of a SINGLE RANGE, or of one BACK, by element and by index. */
    static void dueRow(String what, IndexRanges x, int range, long... row) {
        due(what + ": size", row.length, x.size(range));
        for (int k = 0; k < row.length; k++) {
            int place = k;
            due(what + ": element " + k, 1, answerOr(0, () -> x.element(range, place)));
            due(what + ": held", row[k], x.held(0));
            due(what + ": index", k, answerOr(MIN, () -> x.index(range)));
        }
        dueOut(what + ": element ahead of the row", () -> x.element(range, -1));
        dueOut(what + ": element behind the row", () -> x.element(range, row.length));
    }

    /** The whole row of a RANGE of any WIDTH. */
    static void dueRows(String what, IndexRanges x, int range, long[][] rows) {
        due(what + ": size", rows.length, x.size(range));
        for (int k = 0; k < rows.length; k++) {
            int place = k;
            due(what + ": element " + k, rows[k].length, answerOr(0, () -> x.element(range, place)));
            dueHand(what + ": element " + k, x, rows[k]);
            due(what + ": index", k, answerOr(MIN, () -> x.index(range)));
        }
        dueOut(what + ": element behind the row", () -> x.element(range, rows.length));
    }

    /** Which of some numbers a RANGE of WIDTH 1 has. */
    static void dueHas(String what, IndexRanges x, int range, int want, long... numbers) {
        for (long v : numbers) {
            x.hold(0, v);
            due(what + ": has " + v, want, x.has(range));
        }
    }

    private static long answerOr(long otherwise, Call call) {
        try {
            return call.answer();
        } catch (RuntimeException e) {
            return otherwise;
        }
    }

    // ---- refused calls: a code or an exception, and nothing changes

    static void dueRefused(String what, IndexRanges x, long code, Ask ask) {
        String before = stateOf(x);
        due(what, code, ask.answer(x));
        dueSameState(what, before, x);
    }

    static void dueRefusedByThrow(String what, IndexRanges x, Class<? extends RuntimeException> want, Ask ask) {
        String before = stateOf(x);
        dueThrow(what, want, () -> ask.answer(x));
        dueSameState(what, before, x);
    }

    private static void dueSameState(String what, String before, IndexRanges x) {
        String after = stateOf(x);
        asked++;
        if (!after.equals(before)) {
            fail(what + " changed" + before + " to" + after);
        }
    }

    /** All that can be asked without a MISS. */
    private static String stateOf(IndexRanges x) {
        StringBuilder all = new StringBuilder();
        for (int what = 0; what < 4; what++) {
            all.append(' ').append(x.count(what));
        }
        for (int range = 0; range < x.count(0); range++) {
            all.append(" r").append(x.told(range, 0)).append(':').append(x.size(range));
        }
        for (int k = 0; k < 8; k++) {
            all.append(" h").append(x.held(k));
        }
        for (int what = 0; what < 3; what++) {
            all.append(" m").append(x.miss(what));
        }
        for (int array = 0; array < x.count(1); array++) {
            all.append(" a").append(x.over(array));
            for (int v = 1; v <= 3; v++) {
                all.append(':').append(x.sum(array, 0, v));
            }
        }
        return all.toString();
    }

    /** A call with the numbers of RANGES that there are, and with those that there are not. */
    static void dueUnknownRange(String call, long code, AskOf ask) {
        for (int range : new int[] {-1, 8, 9, 39, 40, 41, LEAST_INT, MOST_INT}) {
            dueRefused(call + " of RANGE " + range, sample(), code, x -> ask.answer(x, range));
        }
        for (int range : new int[] {0, 7}) {
            dueKnown(call + " of RANGE " + range, code, sample(), range, ask);
        }
        dueRefused(call + " of RANGE 0 of a new object", new IndexRanges(), code, x -> ask.answer(x, 0));
        IndexRanges cleared = sample();
        cleared.clear();
        dueRefused(call + " of RANGE 0 behind clear", cleared, code, x -> ask.answer(x, 0));
        dueRefused(call + " of RANGE 7 behind clear", cleared, code, x -> ask.answer(x, 7));
        dueRefused(call + " of RANGE 40 of 40", fullSample(), code, x -> ask.answer(x, 40));
        dueKnown(call + " of RANGE 39 of 40", code, fullSample(), 39, ask);
    }

    static void dueUnknownArray(String call, long code, AskOf ask) {
        for (int array : new int[] {-1, 2, 3, 5, 6, 7, LEAST_INT, MOST_INT}) {
            dueRefused(call + " of ARRAY " + array, sample(), code, x -> ask.answer(x, array));
        }
        for (int array : new int[] {0, 1}) {
            dueKnown(call + " of ARRAY " + array, code, sample(), array, ask);
        }
        dueRefused(call + " of ARRAY 0 of a new object", new IndexRanges(), code, x -> ask.answer(x, 0));
        IndexRanges cleared = sample();
        cleared.clear();
        dueRefused(call + " of ARRAY 0 behind clear", cleared, code, x -> ask.answer(x, 0));
        dueRefused(call + " of ARRAY 1 behind clear", cleared, code, x -> ask.answer(x, 1));
        dueRefused(call + " of ARRAY 6 of 6", withSixArrays(), code, x -> ask.answer(x, 6));
        dueKnown(call + " of ARRAY 5 of 6", code, withSixArrays(), 5, ask);
    }

    private static void dueKnown(String what, long code, IndexRanges x, int number, AskOf ask) {
        asked++;
        if (answerOr(0, () -> ask.answer(x, number)) == code) {
            fail(what + " answered " + code + ", but it is there");
        }
    }

    // ---- objects to begin with

    /** RANGES 0 to 7, ARRAYS 0 and 1 with cells that are not 0, a hand and a MISS. */
    static IndexRanges sample() {
        IndexRanges x = new IndexRanges();
        x.wholes(1, 3);
        x.names(5, 4, 1);
        x.pair(0, 1);
        x.wholes(MIN, MAX);
        x.wholes(2, 1);
        x.pair(2, 2);
        x.pair(5, 5);
        x.back(2);
        x.array(0);
        x.array(2);
        holdAll(x, 3, 0);
        x.put(0, 7);
        x.put(1, 5);
        holdAll(x, 3, 3, 9, 9, 9, 9, 9, 8);
        x.has(2);
        return x;
    }

    static IndexRanges fullSample() {
        IndexRanges x = sample();
        fillWithRanges(x);
        return x;
    }

    static IndexRanges withSixArrays() {
        IndexRanges x = sample();
        for (int array = 2; array < 6; array++) {
            due("array while there is room", array, x.array(0));
        }
        return x;
    }

    static void fillWithRanges(IndexRanges x) {
        fillWithRangesUpTo(x, 40);
    }

    static void fillWithRangesUpTo(IndexRanges x, int ranges) {
        for (int range = x.count(0); range < ranges; range++) {
            due("wholes while there is room", range, x.wholes(1, 2));
        }
    }

    /** A RANGE of a WIDTH from 1 on, of 2 elements in each NUMBER: 0 and 1. */
    static int ofWidth(IndexRanges x, int width) {
        int single = x.wholes(0, 1);
        int made = single;
        for (int w = 2; w <= width; w++) {
            made = x.pair(made, single);
        }
        return made;
    }

    static void holdAll(IndexRanges x, long... numbers) {
        for (int k = 0; k < numbers.length; k++) {
            x.hold(k, numbers[k]);
        }
    }
}
