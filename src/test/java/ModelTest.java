import java.math.BigInteger;
import java.util.ArrayList;
import java.util.List;
import java.util.Random;

/**
 * Runs of calls, always the same ones, on an object and on a model of the document side by side. The
 * model reckons with numbers of any size, so nothing wraps in it, and writes small rows out.
 */
public final class ModelTest {
    private static final int RUNS = 1500;
    private static final int STEPS = 600;

    /** A step is two calls at most, and nine look at THE HAND at the end: behind call 512 nothing is promised. */
    private static final int CALLS_AHEAD_OF_LAST_STEP = 501;

    private static final BigInteger TOP = BigInteger.valueOf(Long.MAX_VALUE);
    private static final BigInteger ZERO = BigInteger.ZERO;
    private static final BigInteger ONE = BigInteger.ONE;
    private static final long LESS = 1000000000L;

    /** What a call of the model throws, by its simple name. */
    private static final class Thrown extends RuntimeException {
        private static final long serialVersionUID = 1L;

        Thrown(String name) {
            super(name, null, false, false);
        }
    }

    private static BigInteger big(long v) {
        return BigInteger.valueOf(v);
    }

    private static long orMany(BigInteger v) {
        return v.compareTo(TOP) > 0 ? -1 : v.longValueExact();
    }

    /** A RANGE of the model. */
    private static final class Kind {
        final int number;
        final int kind;
        final List<Kind> parts = new ArrayList<>();
        final List<Long> names = new ArrayList<>();
        BigInteger first = ZERO;
        BigInteger step = ONE;
        BigInteger size = ONE;
        int width = 1;

        Kind(int number, int kind) {
            this.number = number;
            this.kind = kind;
        }

        static Kind row(int number, int kind, long a, long b, long s) {
            Kind made = new Kind(number, kind);
            made.first = big(a);
            made.step = big(s);
            BigInteger span = s > 0 ? big(b).subtract(big(a)) : big(a).subtract(big(b));
            made.size = span.signum() < 0 ? ZERO : span.divide(made.step.abs()).add(ONE);
            return made;
        }

        static Kind names(int number, int n, int a, int b) {
            Kind made = new Kind(number, 2);
            int at = a;
            while (at != b) {
                made.names.add((long) at);
                at = (at + 1) % n;
            }
            made.names.add((long) b);
            made.size = big(made.names.size());
            return made;
        }

        static Kind of(int number, int kind, List<Kind> parts) {
            Kind made = new Kind(number, kind);
            made.parts.addAll(parts);
            made.width = 0;
            for (Kind part : parts) {
                made.width += part.width;
                made.size = made.size.multiply(part.size);
            }
            return made;
        }

        boolean many() {
            return size.compareTo(TOP) > 0;
        }

        List<Kind> singles() {
            List<Kind> all = new ArrayList<>();
            if (parts.isEmpty()) {
                all.add(this);
            }
            for (Kind part : parts) {
                all.addAll(part.singles());
            }
            return all;
        }

        List<Long> element(BigInteger k) {
            List<Long> row = new ArrayList<>();
            if (kind == 2) {
                row.add(names.get(k.intValueExact()));
            } else if (kind < 4) {
                row.add(first.add(step.multiply(k)).longValueExact());
            } else if (kind == 4) {
                row.addAll(parts.get(0).element(size.subtract(ONE).subtract(k)));
            } else {
                BigInteger below = size;
                BigInteger rest = k;
                for (Kind part : parts) {
                    below = below.divide(part.size);
                    row.addAll(part.element(rest.divide(below)));
                    rest = rest.mod(below);
                }
            }
            return row;
        }

        /** The place of one number in a SINGLE one; null if it is not in it. */
        BigInteger placeOf(long v) {
            if (kind == 2) {
                int at = names.indexOf(v);
                return at < 0 ? null : big(at);
            }
            BigInteger[] parted = big(v).subtract(first).divideAndRemainder(step);
            boolean in = parted[1].signum() == 0 && parted[0].signum() >= 0 && parted[0].compareTo(size) < 0;
            return in ? parted[0] : null;
        }

        BigInteger place(long[] hand, int from, int depth, int[] miss) {
            if (parts.isEmpty()) {
                BigInteger place = placeOf(hand[from]);
                if (place == null) {
                    miss[0]++;
                    miss[1] = number;
                    miss[2] = from;
                    miss[3] = depth;
                }
                return place;
            }
            BigInteger place = ZERO;
            int at = from;
            for (Kind part : parts) {
                BigInteger in = part.place(hand, at, depth + 1, miss);
                if (in == null) {
                    return null;
                }
                place = place.multiply(part.size).add(in);
                at += part.width;
            }
            return kind == 4 ? size.subtract(ONE).subtract(place) : place;
        }

        boolean singleWithin(Kind other) {
            boolean few = size.compareTo(big(300)) <= 0;
            if (!few && other.kind == 2) {
                return false;
            }
            BigInteger looked = few ? size : big(2);
            for (BigInteger k = ZERO; k.compareTo(looked) < 0; k = k.add(ONE)) {
                if (other.placeOf(element(k).get(0)) == null) {
                    return false;
                }
            }
            return other.placeOf(element(size.subtract(ONE)).get(0)) != null;
        }

        boolean within(Kind other) {
            if (width != other.width) {
                return false;
            }
            if (size.compareTo(big(300)) <= 0) {
                return eachWithin(other);
            }
            List<Kind> mine = singles();
            List<Kind> its = other.singles();
            for (int i = 0; i < width; i++) {
                if (!mine.get(i).singleWithin(its.get(i))) {
                    return false;
                }
            }
            return true;
        }

        private boolean eachWithin(Kind other) {
            for (int k = 0; k < size.intValueExact(); k++) {
                List<Long> row = element(big(k));
                long[] numbers = new long[8];
                for (int i = 0; i < row.size(); i++) {
                    numbers[i] = row.get(i);
                }
                if (other.place(numbers, 0, 0, new int[4]) == null) {
                    return false;
                }
            }
            return true;
        }
    }

    /** The document's object, the plainest way. */
    private static final class Model {
        final List<Kind> ranges = new ArrayList<>();
        final List<Kind> bases = new ArrayList<>();
        final List<int[]> cells = new ArrayList<>();
        final long[] hand = new long[8];
        final int[] miss = new int[4];

        boolean known(int range) {
            return range >= 0 && range < ranges.size();
        }

        long add(Kind made) {
            if (ranges.size() == 40) {
                return -104;
            }
            ranges.add(made);
            return made.number;
        }

        long wholes(long a, long b) {
            return add(Kind.row(ranges.size(), 0, a, b, 1));
        }

        long signs(int a, int b) {
            boolean outside = Math.min(a, b) < 0 || Math.max(a, b) > 65535;
            return outside ? -102 : add(Kind.row(ranges.size(), 1, a, b, 1));
        }

        long names(int n, int a, int b) {
            boolean outside = n < 1 || n > 20 || Math.min(a, b) < 0 || Math.max(a, b) >= n;
            return outside ? -102 : add(Kind.names(ranges.size(), n, a, b));
        }

        long steps(long a, long b, int s) {
            boolean outside = s == 0 || Math.abs((long) s) > 1000000;
            return outside ? -102 : add(Kind.row(ranges.size(), 3, a, b, s));
        }

        long made(int kind, int... numbers) {
            List<Kind> parts = new ArrayList<>();
            for (int number : numbers) {
                if (!known(number)) {
                    return -101;
                }
                parts.add(ranges.get(number));
            }
            Kind made = Kind.of(ranges.size(), kind, parts);
            return (kind == 4 ? made.many() : made.width > 8) ? -103 : add(made);
        }

        long told(int range, int what) {
            if (!known(range)) {
                return -101;
            }
            Kind r = ranges.get(range);
            return switch (what) {
                case 0 -> r.kind;
                case 1 -> r.width;
                case 2 -> r.parts.size();
                case 3 -> r.singles().size();
                default -> -102;
            };
        }

        long size(int range) {
            return known(range) ? orMany(ranges.get(range).size) : -101 - LESS;
        }

        long hold(int k, long v) {
            long before = held(k);
            hand[k] = v;
            return before;
        }

        long held(int k) {
            if (k < 0 || k > 7) {
                throw new Thrown("ArrayIndexOutOfBoundsException");
            }
            return hand[k];
        }

        BigInteger placed(Kind range) {
            BigInteger place = range.place(hand, 0, 0, miss);
            if (place == null) {
                throw new Thrown("IndexOutOfBoundsException");
            }
            return place;
        }

        long index(int range) {
            return known(range) ? orMany(placed(ranges.get(range))) : -101 - LESS;
        }

        long has(int range) {
            if (!known(range)) {
                return -101;
            }
            return ranges.get(range).place(hand, 0, 0, miss) == null ? 0 : 1;
        }

        void come(Kind range, BigInteger k) {
            if (k.signum() < 0 || k.compareTo(TOP) > 0 || k.compareTo(range.size) >= 0) {
                throw new Thrown("IndexOutOfBoundsException");
            }
            List<Long> row = range.element(k);
            for (int i = 0; i < row.size(); i++) {
                hand[i] = row.get(i);
            }
        }

        long element(int range, long k) {
            if (!known(range)) {
                return -101;
            }
            come(ranges.get(range), big(k));
            return ranges.get(range).width;
        }

        long go(int range, long by) {
            if (!known(range)) {
                return -101 - LESS;
            }
            BigInteger place = placed(ranges.get(range));
            if (place.compareTo(TOP) > 0) {
                return -103 - LESS;
            }
            come(ranges.get(range), place.add(big(by)));
            return place.add(big(by)).longValueExact();
        }

        long miss(int what) {
            if (what < 0 || what > 2) {
                return -102;
            }
            return miss[0] == 0 ? -103 : miss[what + 1];
        }

        long within(int range, int other) {
            if (!known(range) || !known(other)) {
                return -101;
            }
            return ranges.get(range).within(ranges.get(other)) ? 1 : 0;
        }

        long array(int range) {
            if (!known(range)) {
                return -101;
            }
            if (bases.size() == 6) {
                return -104;
            }
            Kind base = ranges.get(range);
            if (base.many()) {
                throw new Thrown("NegativeArraySizeException");
            }
            if (base.size.compareTo(big(400)) > 0) {
                throw new Thrown("IllegalArgumentException");
            }
            bases.add(base);
            cells.add(new int[base.size.intValueExact()]);
            return bases.size() - 1;
        }

        long cell(int array, boolean puts, int v) {
            if (array < 0 || array >= bases.size()) {
                return -101;
            }
            int at = placed(bases.get(array)).intValueExact();
            int before = cells.get(array)[at];
            if (puts) {
                cells.get(array)[at] = v;
            }
            return before;
        }

        long sum(int array, int i, long v) {
            if (array < 0 || array >= bases.size()) {
                return -101 - LESS;
            }
            if (i < 0 || i >= bases.get(array).width) {
                return -102 - LESS;
            }
            long total = 0;
            for (int k = 0; k < cells.get(array).length; k++) {
                total += bases.get(array).element(big(k)).get(i) == v ? cells.get(array)[k] : 0;
            }
            return total;
        }

        long over(int array) {
            return array < 0 || array >= bases.size() ? -101 : bases.get(array).number;
        }

        long count(int what) {
            int all = 0;
            for (int[] row : cells) {
                all += row.length;
            }
            return switch (what) {
                case 0 -> ranges.size();
                case 1 -> bases.size();
                case 2 -> miss[0];
                case 3 -> all;
                default -> -102;
            };
        }

        long clear() {
            long before = ranges.size();
            ranges.clear();
            bases.clear();
            cells.clear();
            java.util.Arrays.fill(hand, 0);
            java.util.Arrays.fill(miss, 0);
            return before;
        }
    }

    /** One run: its own choices of calls, and both objects that answer them. */
    private static final class Run {
        final Random random;
        final IndexRanges real = new IndexRanges();
        final Model model = new Model();
        final List<String> calls = new ArrayList<>();
        final boolean small;

        Run(int seed) {
            random = new Random(seed);
            small = seed % 3 != 0;
        }

        int upTo(int most) {
            return random.nextInt(most + 1);
        }

        long number() {
            if (small || random.nextInt(3) == 0) {
                return random.nextInt(14) - 4;
            }
            return switch (upTo(6)) {
                case 0 -> Long.MAX_VALUE - upTo(9);
                case 1 -> Long.MIN_VALUE + upTo(9);
                case 2 -> (1L << upTo(63)) + upTo(4) - 2;
                case 3 -> -(1L << upTo(63)) + upTo(4) - 2;
                case 4 -> random.nextInt();
                case 5 -> upTo(70000);
                default -> random.nextLong();
            };
        }

        int step() {
            return switch (upTo(9)) {
                case 0 -> 1000000 - upTo(2) + 1;
                case 1 -> -1000000 + upTo(2) - 1;
                case 2 -> random.nextInt();
                default -> upTo(8) - 4;
            };
        }

        int range() {
            return upTo(25) == 0 ? upTo(50) - 5 : upTo(Math.max(0, model.ranges.size() - 1));
        }

        int array() {
            return upTo(12) == 0 ? upTo(10) - 2 : upTo(Math.max(0, model.bases.size() - 1));
        }

        int oddly(int most) {
            return upTo(25) == 0 ? random.nextInt() : upTo(most + 2) - 1;
        }

        /** Mostly an INDEX that there is. */
        long place(int range) {
            if (!model.known(range) || upTo(4) == 0) {
                return number();
            }
            Kind asked = model.ranges.get(range);
            if (asked.many()) {
                return random.nextLong() & Long.MAX_VALUE;
            }
            long size = asked.size.longValueExact();
            return upTo(5) == 0 ? size - upTo(2) : size == 0 ? 0 : (random.nextLong() & Long.MAX_VALUE) % size;
        }

        boolean make() {
            long a = number();
            long b = small && upTo(5) != 0 ? a + upTo(5) : number();
            int n = upTo(22) - 1;
            int c = upTo(30) == 0 ? random.nextInt() : upTo(Math.max(0, n));
            int d = upTo(30) == 0 ? random.nextInt() : upTo(Math.max(0, n));
            int s = step();
            int r = range();
            int q = range();
            int p = range();
            return switch (upTo(9)) {
                case 0, 1 -> same("wholes", () -> real.wholes(a, b), () -> model.wholes(a, b), a, b);
                case 2 -> same("signs", () -> real.signs((int) a, (int) b), () -> model.signs((int) a, (int) b), (int) a, (int) b);
                case 3 -> same("names", () -> real.names(n, c, d), () -> model.names(n, c, d), n, c, d);
                case 4, 5 -> same("steps", () -> real.steps(a, b, s), () -> model.steps(a, b, s), a, b, s);
                case 6 -> same("back", () -> real.back(r), () -> model.made(4, r), r);
                case 7, 8 -> same("pair", () -> real.pair(r, q), () -> model.made(5, r, q), r, q);
                default -> same("triple", () -> real.triple(r, q, p), () -> model.made(6, r, q, p), r, q, p);
            };
        }

        boolean look() {
            int r = range();
            int q = range();
            int what = oddly(3);
            int k = oddly(7);
            long v = number();
            long by = small || upTo(1) == 0 ? upTo(12) - 6 : number();
            long at = place(r);
            return switch (upTo(11)) {
                case 0 -> same("told", () -> real.told(r, what), () -> model.told(r, what), r, what);
                case 1 -> same("size", () -> real.size(r), () -> model.size(r), r);
                case 2 -> same("hold", () -> real.hold(k, v), () -> model.hold(k, v), k, v);
                case 3 -> same("held", () -> real.held(k), () -> model.held(k), k);
                case 4 -> same("index", () -> real.index(r), () -> model.index(r), r);
                case 5 -> same("has", () -> real.has(r), () -> model.has(r), r);
                case 6, 7 -> same("element", () -> real.element(r, at), () -> model.element(r, at), r, at)
                    && same("index", () -> real.index(r), () -> model.index(r), r);
                case 8 -> same("go", () -> real.go(r, by), () -> model.go(r, by), r, by);
                case 9 -> same("miss", () -> real.miss(what), () -> model.miss(what), what);
                default -> same("within", () -> real.within(r, q), () -> model.within(r, q), r, q);
            };
        }

        boolean cells() {
            int r = range();
            int a = array();
            int i = oddly(2);
            int what = oddly(3);
            long v = upTo(2) == 0 ? number() : model.hand[Math.floorMod(i, 8)];
            int w = random.nextInt();
            return switch (upTo(9)) {
                case 0, 1 -> same("array", () -> real.array(r), () -> model.array(r), r);
                case 2, 3 -> same("put", () -> real.put(a, w), () -> model.cell(a, true, w), a, w);
                case 4 -> same("at", () -> real.at(a), () -> model.cell(a, false, 0), a);
                case 5, 6 -> same("sum", () -> real.sum(a, i, v), () -> model.sum(a, i, v), a, i, v);
                case 7 -> same("over", () -> real.over(a), () -> model.over(a), a);
                case 8 -> same("count", () -> real.count(what), () -> model.count(what), what);
                default -> upTo(30) != 0 || same("clear", () -> real.clear(), () -> model.clear());
            };
        }

        boolean handIsSame() {
            for (int k = 0; k < 8; k++) {
                if (real.held(k) != model.hand[k]) {
                    calls.add("THE HAND's number " + k + " is " + real.held(k) + ", due is " + model.hand[k]);
                    return false;
                }
            }
            return true;
        }

        boolean same(String name, Call call, Call due, long... arguments) {
            StringBuilder text = new StringBuilder(name);
            for (long argument : arguments) {
                text.append(' ').append(argument);
            }
            String want = answer(due);
            String got = answer(call);
            calls.add(text + ": " + got + (got.equals(want) ? "" : ", due is " + want));
            return got.equals(want);
        }

        boolean goesWell() {
            for (int c = 0; c < STEPS && calls.size() <= CALLS_AHEAD_OF_LAST_STEP; c++) {
                boolean well = switch (upTo(5)) {
                    case 0 -> make();
                    case 1, 2 -> cells();
                    default -> look();
                };
                if (!well) {
                    return false;
                }
            }
            return handIsSame();
        }
    }

    private interface Call {
        long answer();
    }

    private static String answer(Call call) {
        try {
            return String.valueOf(call.answer());
        } catch (Thrown e) {
            return "throws." + e.getMessage();
        } catch (RuntimeException e) {
            return "throws." + e.getClass().getSimpleName();
        }
    }

    public static void main(String[] args) {
        int wrong = 0;
        for (int seed = 0; seed < RUNS && wrong < 3; seed++) {
            Run run = new Run(seed);
            if (!run.goesWell()) {
                wrong++;
                System.out.println("run " + seed + " goes wrong at its end:");
                run.calls.forEach(call -> System.out.println("  " + call));
            }
        }
        System.out.println(wrong == 0 ? RUNS + " runs answered as the model" : wrong + " runs went wrong");
        if (wrong != 0) {
            System.exit(1);
        }
    }
}
