import java.util.Arrays;

/**
 * Ranges of indices, a hand of eight numbers that is looked at as an element of them, and small
 * arrays over ranges. The document's words in capitals (RANGE, PART, SINGLE, ..) are meant as it
 * tells them.
 */
public final class IndexRanges {
    public static final int UNKNOWN = -101, OUTSIDE = -102, STATE = -103, ROOM = -104, MANY = -1;

    /** What a place is when there is none; beside MANY, no place is below 0. */
    private static final int MISSED = -2;

    /** Codes of calls that answer a long are so much less, clear of MANY. */
    private static final long LONG_CODES_LESS = 1000000000L;

    private static final int MOST_RANGES = 40, MOST_ARRAYS = 6, MOST_CELLS = 400;
    private static final int MOST_WIDTH = 8, MOST_SIGN = 65535, MOST_NAMES = 20, MOST_STEP = 1000000;

    private static final int WHOLES = 0, SIGNS = 1, NAMES = 2, STEPS = 3, BACK = 4, PAIR = 5, TRIPLE = 6;

    private final Hand hand;
    private final Hand scratch;
    private final Miss lastMiss;
    private final Range[] ranges;
    private final Range[] bases;
    private final int[][] cells;
    private int rangeCount;
    private int arrayCount;

    public IndexRanges() {
        hand = new Hand();
        scratch = new Hand();
        lastMiss = new Miss();
        ranges = new Range[MOST_RANGES];
        bases = new Range[MOST_ARRAYS];
        cells = new int[MOST_ARRAYS][MOST_CELLS];
        rangeCount = 0;
        arrayCount = 0;
    }

    // ---- ranges: each answers its number

    public int wholes(long a, long b) {
        return addRow(WHOLES, a, b, 1);
    }

    public int signs(int a, int b) {
        if (!isUpTo(a, MOST_SIGN) || !isUpTo(b, MOST_SIGN)) {
            return OUTSIDE;
        }
        return addRow(SIGNS, a, b, 1);
    }

    public int names(int n, int a, int b) {
        if (n < 1 || n > MOST_NAMES || !isUpTo(a, n - 1) || !isUpTo(b, n - 1)) {
            return OUTSIDE;
        }
        if (isFull()) {
            return ROOM;
        }
        int onward = b >= a ? b - a : b - a + n;
        return add(new Names(rangeCount, n, a, onward + 1));
    }

    public int steps(long a, long b, int s) {
        if (s == 0 || s < -MOST_STEP || s > MOST_STEP) {
            return OUTSIDE;
        }
        return addRow(STEPS, a, b, s);
    }

    public int back(int range) {
        Range inner = rangeOf(range);
        if (inner == null) {
            return UNKNOWN;
        }
        if (inner.size == MANY) {
            return STATE;
        }
        if (isFull()) {
            return ROOM;
        }
        return add(new Back(rangeCount, inner));
    }

    public int pair(int first, int second) {
        Range one = rangeOf(first);
        Range two = rangeOf(second);
        if (one == null || two == null) {
            return UNKNOWN;
        }
        return addBeside(PAIR, new Range[] {one, two});
    }

    public int triple(int first, int second, int third) {
        Range one = rangeOf(first);
        Range two = rangeOf(second);
        Range three = rangeOf(third);
        if (one == null || two == null || three == null) {
            return UNKNOWN;
        }
        return addBeside(TRIPLE, new Range[] {one, two, three});
    }

    public int told(int range, int what) {
        Range asked = rangeOf(range);
        if (asked == null) {
            return UNKNOWN;
        }
        switch (what) {
            case 0:
                return asked.kind;
            case 1:
                return asked.width;
            case 2:
                return asked.madeOf();
            case 3:
                // Every SINGLE one has WIDTH 1 and WIDTHS are added, so there are as many as it is wide.
                return asked.width;
            default:
                return OUTSIDE;
        }
    }

    public long size(int range) {
        Range asked = rangeOf(range);
        return asked == null ? longCode(UNKNOWN) : asked.size;
    }

    public long hold(int k, long v) throws ArrayIndexOutOfBoundsException {
        if (!isUpTo(k, MOST_WIDTH - 1)) {
            throw new ArrayIndexOutOfBoundsException("the hand has no such number");
        }
        long before = hand.look(k);
        hand.take(k, v);
        return before;
    }

    public long held(int k) throws ArrayIndexOutOfBoundsException {
        if (!isUpTo(k, MOST_WIDTH - 1)) {
            throw new ArrayIndexOutOfBoundsException("the hand has no such number");
        }
        return hand.look(k);
    }

    public long index(int range) throws IndexOutOfBoundsException {
        Range asked = rangeOf(range);
        if (asked == null) {
            return longCode(UNKNOWN);
        }
        long place = placeOfHand(asked);
        if (place == MISSED) {
            throw new IndexOutOfBoundsException("the hand holds no element of the range");
        }
        return place;
    }

    public int has(int range) {
        Range asked = rangeOf(range);
        if (asked == null) {
            return UNKNOWN;
        }
        return placeOfHand(asked) == MISSED ? 0 : 1;
    }

    public int element(int range, long k) throws IndexOutOfBoundsException {
        Range asked = rangeOf(range);
        if (asked == null) {
            return UNKNOWN;
        }
        if (!asked.reaches(k)) {
            throw new IndexOutOfBoundsException("the range has no element of this index");
        }
        asked.fill(hand, 0, k);
        return asked.width;
    }

    public long go(int range, long by) throws IndexOutOfBoundsException {
        Range asked = rangeOf(range);
        if (asked == null) {
            return longCode(UNKNOWN);
        }
        long place = placeOfHand(asked);
        if (place == MANY) {
            return longCode(STATE);
        }
        if (place == MISSED) {
            throw new IndexOutOfBoundsException("the hand holds no element of the range");
        }
        if (by > Long.MAX_VALUE - place || !asked.reaches(place + by)) {
            throw new IndexOutOfBoundsException("the range has no such place");
        }
        asked.fill(hand, 0, place + by);
        return place + by;
    }

    public int miss(int what) {
        if (!isUpTo(what, 2)) {
            return OUTSIDE;
        }
        if (lastMiss.times == 0) {
            return STATE;
        }
        if (what == 0) {
            return lastMiss.single;
        }
        return what == 1 ? lastMiss.number : lastMiss.depth;
    }

    public int within(int range, int other) {
        Range one = rangeOf(range);
        Range two = rangeOf(other);
        if (one == null || two == null) {
            return UNKNOWN;
        }
        return liesWithin(one, two) ? 1 : 0;
    }

    public int array(int range) throws NegativeArraySizeException, IllegalArgumentException {
        Range base = rangeOf(range);
        if (base == null) {
            return UNKNOWN;
        }
        if (arrayCount >= MOST_ARRAYS) {
            return ROOM;
        }
        if (base.size == MANY) {
            throw new NegativeArraySizeException("the size of the range is many");
        }
        if (base.size > MOST_CELLS) {
            throw new IllegalArgumentException("the size of the range is above 400");
        }
        bases[arrayCount] = base;
        Arrays.fill(cells[arrayCount], 0);
        arrayCount++;
        return arrayCount - 1;
    }

    public int put(int array, int v) throws IndexOutOfBoundsException {
        Range base = baseOf(array);
        if (base == null) {
            return UNKNOWN;
        }
        int cell = cellOfHand(base);
        if (cell == MISSED) {
            throw new IndexOutOfBoundsException("the hand holds no element of the array's range");
        }
        int before = cells[array][cell];
        cells[array][cell] = v;
        return before;
    }

    public int at(int array) throws IndexOutOfBoundsException {
        Range base = baseOf(array);
        if (base == null) {
            return UNKNOWN;
        }
        int cell = cellOfHand(base);
        if (cell == MISSED) {
            throw new IndexOutOfBoundsException("the hand holds no element of the array's range");
        }
        return cells[array][cell];
    }

    public long sum(int array, int i, long v) {
        Range base = baseOf(array);
        if (base == null) {
            return longCode(UNKNOWN);
        }
        if (!isUpTo(i, base.width - 1)) {
            return longCode(OUTSIDE);
        }
        long total = 0;
        for (int cell = 0; cell < MOST_CELLS && cell < base.size; cell++) {
            base.fill(scratch, 0, cell);
            if (scratch.look(i) == v) {
                total += cells[array][cell];
            }
        }
        return total;
    }

    public int over(int array) {
        Range base = baseOf(array);
        return base == null ? UNKNOWN : base.number;
    }

    public int count(int what) {
        switch (what) {
            case 0:
                return rangeCount;
            case 1:
                return arrayCount;
            case 2:
                return lastMiss.times;
            case 3:
                return cellsInUse();
            default:
                return OUTSIDE;
        }
    }

    public int clear() {
        int before = rangeCount;
        rangeCount = 0;
        arrayCount = 0;
        hand.drop();
        lastMiss.forget();
        return before;
    }

    // ---- what the calls share

    private static boolean isUpTo(int x, int most) {
        return x >= 0 && x <= most;
    }

    private static long longCode(int code) {
        return code - LONG_CODES_LESS;
    }

    private Range rangeOf(int range) {
        return range >= 0 && range < rangeCount ? ranges[range] : null;
    }

    private Range baseOf(int array) {
        return array >= 0 && array < arrayCount ? bases[array] : null;
    }

    private boolean isFull() {
        return rangeCount >= MOST_RANGES;
    }

    private int add(Range made) {
        ranges[rangeCount] = made;
        rangeCount++;
        return made.number;
    }

    private int addRow(int kind, long a, long b, int step) {
        if (isFull()) {
            return ROOM;
        }
        boolean none = step > 0 ? b < a : b > a;
        if (none) {
            return add(new Row(rangeCount, kind, a, a, step, 0));
        }
        long stepsOn = step > 0 ? quotient(b - a, step) : quotient(a - b, -step);
        boolean many = stepsOn < 0 || stepsOn == Long.MAX_VALUE;
        // The last element lies between a and b, so the wrapped product and sum come out at it.
        return add(new Row(rangeCount, kind, a, a + stepsOn * step, step, many ? MANY : stepsOn + 1));
    }

    private int addBeside(int kind, Range[] parts) {
        int width = 0;
        long size = 1;
        for (Range part : parts) {
            width += part.width;
            size = times(size, part.size);
        }
        if (width > MOST_WIDTH) {
            return STATE;
        }
        if (isFull()) {
            return ROOM;
        }
        return add(new Beside(rangeCount, kind, width, size, parts));
    }

    private long placeOfHand(Range asked) {
        return asked.place(hand, 0, 0, lastMiss);
    }

    private int cellOfHand(Range base) {
        long place = placeOfHand(base);
        return place >= 0 && place < MOST_CELLS ? (int) place : MISSED;
    }

    private int cellsInUse() {
        int all = 0;
        for (int array = 0; array < arrayCount; array++) {
            Range base = baseOf(array);
            all += base == null ? 0 : (int) base.size;
        }
        return all;
    }

    /** A RANGE's elements are all that its SINGLE ones give side by side, whatever their order. */
    private static boolean liesWithin(Range one, Range two) {
        if (one.width != two.width) {
            return false;
        }
        if (one.size == 0) {
            return true;
        }
        for (int i = 0; i < one.width; i++) {
            Single mine = one.singleAt(i);
            Single its = two.singleAt(i);
            if (mine == null || its == null || !mine.liesIn(its)) {
                return false;
            }
        }
        return true;
    }

    /** d / s with d as a number without sign, of 64 bits, and s from 1 to MOST_STEP. */
    private static long quotient(long d, long s) {
        if (s < 1) {
            return 0;
        }
        // Half of d has no sign to be mistaken; what the halving leaves behind is less than 2 * s.
        long even = ((d >>> 1) / s) << 1;
        return d - even * s >= s ? even + 1 : even;
    }

    /** The product of numbers from 0 on, any of which may be MANY: none of MANY is none. */
    private static long times(long a, long b) {
        if (a == 0 || b == 0) {
            return 0;
        }
        if (a == MANY || b == MANY || a > Long.MAX_VALUE / b) {
            return MANY;
        }
        return a * b;
    }

    /** The sum of numbers from 0 on, any of which may be MANY. */
    private static long plus(long a, long b) {
        if (a == MANY || b == MANY || a > Long.MAX_VALUE - b) {
            return MANY;
        }
        return a + b;
    }

    // ---- the classes inside

    /** NUMBERS that are looked at as an element; the scratch one serves sums, so that THE HAND stays. */
    private static final class Hand {
        private final long[] numbers;

        Hand() {
            numbers = new long[MOST_WIDTH];
        }

        long look(int k) {
            return k >= 0 && k < MOST_WIDTH ? numbers[k] : 0;
        }

        void take(int k, long v) {
            if (k >= 0 && k < MOST_WIDTH) {
                numbers[k] = v;
            }
        }

        void drop() {
            Arrays.fill(numbers, 0);
        }
    }

    /** THE MISS, and how often there was one. */
    private static final class Miss {
        int times;
        int single;
        int number;
        int depth;

        void note(int missedSingle, int missedNumber, int missedDepth) {
            times++;
            single = missedSingle;
            number = missedNumber;
            depth = missedDepth;
        }

        void forget() {
            times = 0;
        }
    }

    /** A RANGE is made of older ones alone, so walks through its PARTS end within MOST_RANGES levels. */
    private abstract static class Range {
        final int number;
        final int kind;
        final int width;
        final long size;

        Range(int number, int kind, int width, long size) {
            this.number = number;
            this.kind = kind;
            this.width = width;
            this.size = size;
        }

        final boolean reaches(long k) {
            return k >= 0 && (size == MANY || k < size);
        }

        abstract int madeOf();

        /** INDEX of what stands in the hand from a NUMBER on: a place, MANY, or MISSED and noted. */
        abstract long place(Hand hand, int from, int depth, Miss miss);

        /** Writes the element of INDEX k, which the RANGE reaches, from a NUMBER on. */
        abstract void fill(Hand hand, int from, long k);

        /** The SINGLE RANGE that NUMBER i of an element comes from; null if i is not below WIDTH. */
        abstract Single singleAt(int i);
    }

    private abstract static class Single extends Range {
        Single(int number, int kind, long size) {
            super(number, kind, 1, size);
        }

        abstract long placeOf(long v);

        abstract long valueAt(long k);

        /** Whether each number is one of the other; asked only where there is one. */
        abstract boolean liesIn(Single other);

        @Override
        final int madeOf() {
            return 0;
        }

        @Override
        final long place(Hand hand, int from, int depth, Miss miss) {
            long place = placeOf(hand.look(from));
            if (place == MISSED) {
                miss.note(number, from, depth);
            }
            return place;
        }

        @Override
        final void fill(Hand hand, int from, long k) {
            hand.take(from, valueAt(k));
        }

        @Override
        final Single singleAt(int i) {
            return i == 0 ? this : null;
        }

        /** Looks at each number: for where one of both is NAMES, which has few. */
        final boolean eachLiesIn(Single other) {
            if (size == MANY || size > MOST_NAMES) {
                return false;
            }
            for (int k = 0; k < size; k++) {
                if (other.placeOf(valueAt(k)) == MISSED) {
                    return false;
                }
            }
            return true;
        }
    }

    /** WHOLES, SIGNS and STEPS: numbers one step apart, from the first to the last one that there is. */
    private static final class Row extends Single {
        private final long first;
        private final long last;
        private final int step;

        Row(int number, int kind, long first, long last, int step, long size) {
            super(number, kind, size);
            this.first = first;
            this.last = last;
            this.step = step;
        }

        @Override
        long placeOf(long v) {
            boolean up = step > 0;
            boolean beside = up ? v < first || v > last : v > first || v < last;
            if (size == 0 || beside) {
                return MISSED;
            }
            long stride = up ? step : -step;
            long distance = up ? v - first : first - v;
            long stepsOn = quotient(distance, stride);
            if (stepsOn * stride != distance) {
                return MISSED;
            }
            return stepsOn < 0 ? MANY : stepsOn;
        }

        @Override
        long valueAt(long k) {
            return first + k * step;
        }

        @Override
        boolean liesIn(Single other) {
            return other instanceof Row row ? liesInRow(row) : eachLiesIn(other);
        }

        private boolean liesInRow(Row other) {
            if (other.placeOf(first) == MISSED || other.placeOf(last) == MISSED) {
                return false;
            }
            return size == 1 || other.step != 0 && step % other.step == 0;
        }
    }

    private static final class Names extends Single {
        private final int around;
        private final int first;

        Names(int number, int around, int first, int size) {
            super(number, NAMES, size);
            this.around = around;
            this.first = first;
        }

        @Override
        long placeOf(long v) {
            if (v < 0 || v >= around) {
                return MISSED;
            }
            long onward = v >= first ? v - first : v - first + around;
            return onward < size ? onward : MISSED;
        }

        @Override
        long valueAt(long k) {
            long straight = first + k;
            return straight < around ? straight : straight - around;
        }

        @Override
        boolean liesIn(Single other) {
            return eachLiesIn(other);
        }
    }

    private static final class Back extends Range {
        private final Range inner;

        Back(int number, Range inner) {
            super(number, BACK, inner.width, inner.size);
            this.inner = inner;
        }

        @Override
        int madeOf() {
            return 1;
        }

        @Override
        long place(Hand hand, int from, int depth, Miss miss) {
            long place = inner.place(hand, from, depth + 1, miss);
            return place == MISSED ? MISSED : size - 1 - place;
        }

        @Override
        void fill(Hand hand, int from, long k) {
            inner.fill(hand, from, size - 1 - k);
        }

        @Override
        Single singleAt(int i) {
            return inner.singleAt(i);
        }
    }

    /** PAIR and TRIPLE. */
    private static final class Beside extends Range {
        private final Range[] parts;

        Beside(int number, int kind, int width, long size, Range[] parts) {
            super(number, kind, width, size);
            this.parts = parts;
        }

        @Override
        int madeOf() {
            return parts.length;
        }

        @Override
        long place(Hand hand, int from, int depth, Miss miss) {
            long place = 0;
            int next = from;
            for (Range part : parts) {
                long inPart = part.place(hand, next, depth + 1, miss);
                if (inPart == MISSED) {
                    return MISSED;
                }
                place = plus(times(place, part.size), inPart);
                next += part.width;
            }
            return place;
        }

        @Override
        void fill(Hand hand, int from, long k) {
            long rest = k;
            int next = from + width;
            for (int p = parts.length - 1; p >= 0; p--) {
                Range part = parts[p];
                next -= part.width;
                // A PART that is MANY never comes to its end below any INDEX, so it takes all the rest.
                boolean comesRound = part.size > 0;
                part.fill(hand, next, comesRound ? rest % part.size : rest);
                rest = comesRound ? rest / part.size : 0;
            }
        }

        @Override
        Single singleAt(int i) {
            int rest = i;
            for (Range part : parts) {
                if (rest < part.width) {
                    return part.singleAt(rest);
                }
                rest -= part.width;
            }
            return null;
        }
    }
}
