/** One method a promise: ordinary inputs, edges and wrong inputs, all together. */
public final class PromisesTest extends Checks {
    private static IndexRanges full() {
        IndexRanges x = new IndexRanges();
        for (int k = 0; k < 40; k++) {
            due("wholes while there is room", k, x.wholes(k, k + 2));
        }
        return x;
    }

    private static void promise1NewObject() {
        IndexRanges x = new IndexRanges();
        for (int what = 0; what < 4; what++) {
            due("new: count(" + what + ")", 0, x.count(what));
        }
        due("new: miss(0)", STATE, x.miss(0));
        due("new: size(0)", LONG_UNKNOWN, x.size(0));
        due("new: over(0)", UNKNOWN, x.over(0));
        dueHand("new", x, 0, 0, 0, 0, 0, 0, 0, 0);
        due("constants", 0, x.clear());
        due("UNKNOWN", UNKNOWN, IndexRanges.UNKNOWN);
        due("OUTSIDE", OUTSIDE, IndexRanges.OUTSIDE);
        due("STATE", STATE, IndexRanges.STATE);
        due("ROOM", ROOM, IndexRanges.ROOM);
        due("MANY", MANY, IndexRanges.MANY);
    }

    private static void promise2Wholes() {
        IndexRanges x = new IndexRanges();
        due("wholes(-2, 2)", 0, x.wholes(-2, 2));
        dueRow("wholes(-2, 2)", x, 0, -2, -1, 0, 1, 2);
        due("wholes(3, 2)", 1, x.wholes(3, 2));
        dueRow("wholes(3, 2)", x, 1);
        due("wholes(7, 7)", 2, x.wholes(7, 7));
        dueRow("wholes(7, 7)", x, 2, 7);
        due("wholes at the top", 3, x.wholes(MAX - 1, MAX));
        dueRow("wholes at the top", x, 3, MAX - 1, MAX);
        due("wholes at the bottom", 4, x.wholes(MIN, MIN + 1));
        dueRow("wholes at the bottom", x, 4, MIN, MIN + 1);
        due("wholes(MAX, MIN)", 5, x.wholes(MAX, MIN));
        due("size of wholes(MAX, MIN)", 0, x.size(5));
        due("wholes without room", ROOM, full().wholes(1, 2));
    }

    private static void promise3Signs() {
        IndexRanges x = new IndexRanges();
        due("signs(97, 99)", 0, x.signs(97, 99));
        dueRow("signs(97, 99)", x, 0, 97, 98, 99);
        due("signs(0, 65535)", 1, x.signs(0, 65535));
        due("size of all signs", 65536, x.size(1));
        due("signs(9, 8)", 2, x.signs(9, 8));
        dueRow("signs(9, 8)", x, 2);
        due("signs(-1, 3)", OUTSIDE, x.signs(-1, 3));
        due("signs(3, -1)", OUTSIDE, x.signs(3, -1));
        due("signs(65536, 3)", OUTSIDE, x.signs(65536, 3));
        due("signs(3, 65536)", OUTSIDE, x.signs(3, 65536));
        due("signs(MIN, MAX)", OUTSIDE, x.signs(Integer.MIN_VALUE, Integer.MAX_VALUE));
        due("refused ones make none", 3, x.count(0));
        due("signs without room", ROOM, full().signs(1, 2));
        due("signs: OUTSIDE comes ahead of ROOM", OUTSIDE, full().signs(-1, 2));
    }

    private static void promise4Names() {
        IndexRanges x = new IndexRanges();
        due("names(7, 5, 1)", 0, x.names(7, 5, 1));
        dueRow("names(7, 5, 1)", x, 0, 5, 6, 0, 1);
        due("names(7, 1, 5)", 1, x.names(7, 1, 5));
        dueRow("names(7, 1, 5)", x, 1, 1, 2, 3, 4, 5);
        due("names(1, 0, 0)", 2, x.names(1, 0, 0));
        dueRow("names(1, 0, 0)", x, 2, 0);
        due("names(4, 3, 2)", 3, x.names(4, 3, 2));
        dueRow("names(4, 3, 2)", x, 3, 3, 0, 1, 2);
        due("names(20, 19, 0)", 4, x.names(20, 19, 0));
        dueRow("names(20, 19, 0)", x, 4, 19, 0);
        for (long v : new long[] {-1, 2, 4, 7, MIN, MAX}) {
            x.hold(0, v);
            due("has(names) of " + v, 0, x.has(0));
        }
        due("names(0, 0, 0)", OUTSIDE, x.names(0, 0, 0));
        due("names(-3, 0, 0)", OUTSIDE, x.names(-3, 0, 0));
        due("names(21, 0, 0)", OUTSIDE, x.names(21, 0, 0));
        due("names(7, 7, 0)", OUTSIDE, x.names(7, 7, 0));
        due("names(7, 0, 7)", OUTSIDE, x.names(7, 0, 7));
        due("names(7, -1, 0)", OUTSIDE, x.names(7, -1, 0));
        due("names(7, 0, -1)", OUTSIDE, x.names(7, 0, -1));
        due("names(MIN, 0, 0)", OUTSIDE, x.names(Integer.MIN_VALUE, 0, 0));
        due("refused ones make none", 5, x.count(0));
        due("names without room", ROOM, full().names(7, 1, 2));
        due("names: OUTSIDE comes ahead of ROOM", OUTSIDE, full().names(7, 1, 7));
    }

    private static void promise5Steps() {
        IndexRanges x = new IndexRanges();
        due("steps(10, 1, -3)", 0, x.steps(10, 1, -3));
        dueRow("steps(10, 1, -3)", x, 0, 10, 7, 4, 1);
        due("steps(10, 2, -3)", 1, x.steps(10, 2, -3));
        dueRow("steps(10, 2, -3)", x, 1, 10, 7, 4);
        due("steps(-4, 5, 4)", 2, x.steps(-4, 5, 4));
        dueRow("steps(-4, 5, 4)", x, 2, -4, 0, 4);
        due("steps(5, 4, 1)", 3, x.steps(5, 4, 1));
        dueRow("steps(5, 4, 1)", x, 3);
        due("steps(4, 5, -1)", 4, x.steps(4, 5, -1));
        dueRow("steps(4, 5, -1)", x, 4);
        due("steps(4, 4, -9)", 5, x.steps(4, 4, -9));
        dueRow("steps(4, 4, -9)", x, 5, 4);
        due("steps near the top", 6, x.steps(MAX - 5, MAX, 1000000));
        dueRow("steps near the top", x, 6, MAX - 5);
        due("steps near the bottom", 7, x.steps(MIN + 5, MIN, -3));
        dueRow("steps near the bottom", x, 7, MIN + 5, MIN + 2);
        due("steps(0, 9, 0)", OUTSIDE, x.steps(0, 9, 0));
        due("steps(0, 9, 1000001)", OUTSIDE, x.steps(0, 9, 1000001));
        due("steps(9, 0, -1000001)", OUTSIDE, x.steps(9, 0, -1000001));
        due("steps(9, 0, MIN)", OUTSIDE, x.steps(9, 0, Integer.MIN_VALUE));
        due("steps(0, 9, 1000000)", 8, x.steps(0, 9, 1000000));
        due("steps(9, 0, -1000000)", 9, x.steps(9, 0, -1000000));
        due("steps through all, by 3", 10, x.steps(MIN, MAX, 3));
        due("size of steps through all, by 3", 6148914691236517206L, x.size(10));
        due("its last element", 1, x.element(10, 6148914691236517205L));
        dueHand("its last element", x, MAX);
        due("index of its last element", 6148914691236517205L, x.index(10));
        due("steps down through all, by 1000000", 11, x.steps(MAX, MIN, -1000000));
        due("its size", 18446744073710L, x.size(11));
        due("its last element", 1, x.element(11, 18446744073709L));
        dueHand("its last element", x, MAX - 18446744073709L * 1000000L);
        due("index of its last element", 18446744073709L, x.index(11));
        x.hold(0, x.held(0) + 1);
        due("beside a step", 0, x.has(11));
        due("steps without room", ROOM, full().steps(1, 2, 1));
        due("steps: OUTSIDE comes ahead of ROOM", OUTSIDE, full().steps(1, 2, 0));
    }

    private static void promise6Back() {
        IndexRanges x = new IndexRanges();
        x.wholes(3, 5);
        due("back(0)", 1, x.back(0));
        dueRow("back(0)", x, 1, 5, 4, 3);
        due("back of back", 2, x.back(1));
        dueRow("back of back", x, 2, 3, 4, 5);
        x.names(5, 4, 1);
        due("back of names", 4, x.back(3));
        dueRow("back of names", x, 4, 1, 0, 4);
        x.wholes(2, 1);
        due("back of none", 6, x.back(5));
        dueRow("back of none", x, 6);
        x.wholes(1, MAX);
        due("back of as many as can be told", 8, x.back(7));
        due("its size", MAX, x.size(8));
        due("its first", 1, x.element(8, 0));
        dueHand("its first", x, MAX);
        due("its last", 1, x.element(8, MAX - 1));
        dueHand("its last", x, 1);
        due("index of its last", MAX - 1, x.index(8));
        x.wholes(0, MAX);
        due("back of MANY", STATE, x.back(9));
        due("back(10)", UNKNOWN, x.back(10));
        due("back(-1)", UNKNOWN, x.back(-1));
        x.pair(9, 5);
        due("back of none made of MANY", 11, x.back(10));
        due("size of that", 0, x.size(11));
        due("back without room", ROOM, full().back(0));
        due("back: UNKNOWN comes ahead of ROOM", UNKNOWN, full().back(40));
        IndexRanges y = new IndexRanges();
        y.wholes(MIN, MAX);
        for (int k = 1; k < 40; k++) {
            y.wholes(0, 0);
        }
        due("back: STATE comes ahead of ROOM", STATE, y.back(0));
    }

    private static void promise7Pair() {
        IndexRanges x = new IndexRanges();
        x.wholes(3, 4);
        x.steps(10, 4, -3);
        due("pair(0, 1)", 2, x.pair(0, 1));
        due("size of it", 6, x.size(2));
        long[][] rows = {{3, 10}, {3, 7}, {3, 4}, {4, 10}, {4, 7}, {4, 4}};
        for (int k = 0; k < rows.length; k++) {
            due("element(2, k)", 2, x.element(2, k));
            dueHand("pair, element " + k, x, rows[k]);
            due("index(2)", k, x.index(2));
        }
        due("back of it", 3, x.back(2));
        due("element(3, 1)", 2, x.element(3, 1));
        dueHand("element(3, 1)", x, 4, 7);
        due("pair(0, 4)", UNKNOWN, x.pair(0, 4));
        due("pair(-1, 0)", UNKNOWN, x.pair(-1, 0));
        due("pair(2, 2)", 4, x.pair(2, 2));
        due("pair(4, 4)", 5, x.pair(4, 4));
        due("width 8", 8, x.told(5, 1));
        due("width 9", STATE, x.pair(5, 0));
        due("width 9 the other way", STATE, x.pair(0, 5));
        due("width 16", STATE, x.pair(5, 5));
        due("refused ones make none", 6, x.count(0));
        due("pair without room", ROOM, full().pair(0, 39));
        due("pair: UNKNOWN comes ahead of ROOM", UNKNOWN, full().pair(0, 40));
    }

    private static void promise8Triple() {
        IndexRanges x = new IndexRanges();
        x.wholes(1, 2);
        x.names(3, 2, 0);
        x.signs(65, 67);
        due("triple(0, 1, 2)", 3, x.triple(0, 1, 2));
        due("size of it", 12, x.size(3));
        int k = 0;
        for (long a : new long[] {1, 2}) {
            for (long b : new long[] {2, 0}) {
                for (long c : new long[] {65, 66, 67}) {
                    due("element(3, k)", 3, x.element(3, k));
                    dueHand("triple, element " + k, x, a, b, c);
                    due("index(3)", k, x.index(3));
                    k++;
                }
            }
        }
        due("triple(0, 0, 4)", UNKNOWN, x.triple(0, 0, 4));
        due("triple(0, 4, 0)", UNKNOWN, x.triple(0, 4, 0));
        due("triple(-1, 0, 0)", UNKNOWN, x.triple(-1, 0, 0));
        due("triple(3, 3, 0)", 4, x.triple(3, 3, 0));
        due("triple(3, 3, pair)", 5, x.pair(0, 0));
        due("width 8", 6, x.triple(3, 3, 5));
        due("width 9", STATE, x.triple(3, 3, 3));
        due("width 9 otherwise", STATE, x.triple(4, 0, 0));
        due("triple without room", ROOM, full().triple(0, 1, 39));
        due("triple: UNKNOWN comes ahead of ROOM", UNKNOWN, full().triple(0, 40, 1));
        IndexRanges y = new IndexRanges();
        y.wholes(0, 1);
        y.triple(0, 0, 0);
        y.triple(1, 0, 0);
        while (y.count(0) < 40) {
            y.wholes(0, 0);
        }
        due("triple: STATE comes ahead of ROOM", STATE, y.triple(1, 1, 1));
        due("pair: STATE comes ahead of ROOM", STATE, y.pair(2, 2));
        due("pair of width 8 without room", ROOM, y.pair(1, 2));
    }

    private static void promise9Told() {
        IndexRanges x = new IndexRanges();
        x.wholes(1, 2);
        x.signs(1, 2);
        x.names(3, 1, 2);
        x.steps(1, 2, 1);
        x.back(3);
        x.pair(0, 4);
        x.triple(5, 0, 5);
        x.back(6);
        int[][] dues = {{0, 1, 0, 1}, {1, 1, 0, 1}, {2, 1, 0, 1}, {3, 1, 0, 1}, {4, 1, 1, 1}, {5, 2, 2, 2},
            {6, 5, 3, 5}, {4, 5, 1, 5}};
        for (int range = 0; range < dues.length; range++) {
            for (int what = 0; what < 4; what++) {
                due("told(" + range + ", " + what + ")", dues[range][what], x.told(range, what));
            }
        }
        due("told(0, 4)", OUTSIDE, x.told(0, 4));
        due("told(0, -1)", OUTSIDE, x.told(0, -1));
        due("told(8, 0)", UNKNOWN, x.told(8, 0));
        due("told(8, 4)", UNKNOWN, x.told(8, 4));
        due("told(-1, 0)", UNKNOWN, x.told(-1, 0));
    }

    private static void promise10Size() {
        IndexRanges x = new IndexRanges();
        x.wholes(MIN, MAX);
        x.wholes(0, MAX);
        x.wholes(1, MAX);
        x.wholes(MIN, -1);
        x.wholes(MIN, -2);
        x.steps(MIN, MAX, 2);
        x.steps(MAX, MIN, -1);
        x.wholes(1, 0);
        long[] singles = {MANY, MANY, MAX, MANY, MAX, MANY, MANY, 0};
        for (int range = 0; range < singles.length; range++) {
            due("size(" + range + ")", singles[range], x.size(range));
        }
        int big = x.wholes(1, 3037000500L);
        int less = x.wholes(1, 3037000499L);
        due("a square that is above", MANY, x.size(x.pair(big, big)));
        due("a square that is not", 3037000499L * 3037000499L, x.size(x.pair(less, less)));
        int seven = x.wholes(1, 7);
        int rest = x.wholes(1, MAX / 7);
        due("a product of just as many", MAX, x.size(x.pair(seven, rest)));
        int power = x.wholes(1, 1L << 32);
        int wraps = x.triple(power, power, power);
        due("2 to the 96", MANY, x.size(wraps));
        due("MANY and none", 0, x.size(x.pair(wraps, 7)));
        due("none and MANY", 0, x.size(x.triple(7, wraps, 0)));
        due("MANY, MANY and none", 0, x.size(x.triple(0, 0, 7)));
        due("size(-1)", LONG_UNKNOWN, x.size(-1));
        due("size(99)", LONG_UNKNOWN, x.size(99));
    }

    private static void promise11Hold() {
        IndexRanges x = new IndexRanges();
        for (int k = 0; k < 8; k++) {
            due("hold anew", 0, x.hold(k, MIN + k));
            due("hold again", MIN + k, x.hold(k, MAX - k));
        }
        for (int k = 0; k < 8; k++) {
            due("held after hold", MAX - k, x.held(k));
        }
        for (int k : new int[] {-1, 8, Integer.MIN_VALUE, Integer.MAX_VALUE}) {
            dueThrow("hold(" + k + ", 1)", ArrayIndexOutOfBoundsException.class, () -> x.hold(k, 1));
        }
        due("held(7)", MAX - 7, x.held(7));
        due("nothing is missed by it", 0, x.count(2));
    }

    private static void promise12Held() {
        IndexRanges x = new IndexRanges();
        x.hold(7, 5);
        due("held(7)", 5, x.held(7));
        due("held(6)", 0, x.held(6));
        for (int k : new int[] {-1, 8, Integer.MIN_VALUE, Integer.MAX_VALUE}) {
            dueThrow("held(" + k + ")", ArrayIndexOutOfBoundsException.class, () -> x.held(k));
        }
    }

    private static void promise13Index() {
        IndexRanges x = new IndexRanges();
        x.wholes(MIN, MAX);
        x.wholes(1, 4);
        x.pair(0, 1);
        x.pair(1, 0);
        x.back(1);
        x.triple(4, 0, 1);
        holdAll(x, -1, 1);
        due("the last index of WHOLES that can be told", MAX, x.index(0));
        due("far in a pair", MANY, x.index(2));
        holdAll(x, MIN + (1L << 61), 1);
        due("2 to the 63", MANY, x.index(2));
        holdAll(x, MIN + (1L << 61) - 1, 4);
        due("2 to the 63 less 1", MAX, x.index(2));
        holdAll(x, 1, -1);
        due("the first row of MANY", MAX, x.index(3));
        holdAll(x, 1, 0);
        due("the first row of MANY, too far", MANY, x.index(3));
        holdAll(x, 2, MIN);
        due("the second row of MANY", MANY, x.index(3));
        holdAll(x, 4, MIN, 3);
        due("a triple's third", 2, x.index(5));
        holdAll(x, 4, MIN + 1, 3);
        due("a triple's seventh", 6, x.index(5));
        holdAll(x, 3, MIN, 1);
        due("a triple's second row of MANY", MANY, x.index(5));
        holdAll(x, 5, 9);
        dueOut("index of what is missed", () -> x.index(3));
        dueMiss("index", x, 1, 0, 1);
        due("index(6)", LONG_UNKNOWN, x.index(6));
        due("index(-1)", LONG_UNKNOWN, x.index(-1));
        int none = x.wholes(1, 0);
        int manyAndNone = x.pair(0, none);
        holdAll(x, MAX, 3);
        dueOut("index in none behind MANY", () -> x.index(manyAndNone));
        dueMiss("none behind MANY", x, none, 1, 1);
        due("missed twice", 2, x.count(2));
    }

    private static void promise14Has() {
        IndexRanges x = new IndexRanges();
        x.steps(0, 10, 5);
        x.pair(0, 0);
        for (long v : new long[] {0, 5, 10}) {
            x.hold(0, v);
            due("has a step", 1, x.has(0));
        }
        due("nothing missed yet", 0, x.count(2));
        for (long v : new long[] {-5, -1, 1, 9, 11, 15, MIN, MAX}) {
            x.hold(0, v);
            due("has " + v, 0, x.has(0));
        }
        due("missed each time", 8, x.count(2));
        holdAll(x, 5, 6);
        due("has(1)", 0, x.has(1));
        dueMiss("has", x, 0, 1, 1);
        x.hold(1, 5);
        due("has(1) now", 1, x.has(1));
        dueMiss("it stays", x, 0, 1, 1);
        due("has(2)", UNKNOWN, x.has(2));
        due("has(-1)", UNKNOWN, x.has(-1));
        due("unknown ones are not missed", 9, x.count(2));
        x.wholes(MIN, MAX);
        x.hold(0, MAX);
        due("has of an index that is MANY", 1, x.has(2));
    }

    private static void promise15Element() {
        IndexRanges x = new IndexRanges();
        x.wholes(MIN, MAX);
        x.wholes(1, 3);
        x.triple(1, 0, 1);
        holdAll(x, 11, 12, 13, 14, 15, 16, 17, 18);
        due("element(2, MAX)", 3, x.element(2, MAX));
        dueHand("NUMBERS behind it stay", x, 1, MIN + MAX / 3, 2, 14, 15, 16, 17, 18);
        due("index of it", MAX, x.index(2));
        due("element(0, 0)", 1, x.element(0, 0));
        dueHand("element(0, 0)", x, MIN, MIN + MAX / 3);
        x.wholes(1, 0);
        x.hold(0, 9);
        due("has(1)", 0, x.has(1));
        dueOut("element(1, 3)", () -> x.element(1, 3));
        dueOut("element(1, -1)", () -> x.element(1, -1));
        dueOut("element(1, MAX)", () -> x.element(1, MAX));
        dueOut("element(0, -1)", () -> x.element(0, -1));
        dueOut("element(0, MIN)", () -> x.element(0, MIN));
        dueOut("element(3, 0)", () -> x.element(3, 0));
        dueMiss("THE MISS stays", x, 1, 0, 0);
        due("it is the only one", 1, x.count(2));
        due("THE HAND stays", 9, x.held(0));
        due("element(4, 0)", UNKNOWN, x.element(4, 0));
        due("element(-1, -1)", UNKNOWN, x.element(-1, -1));
    }

    private static void promise16Go() {
        IndexRanges x = new IndexRanges();
        x.wholes(MIN, MAX);
        x.steps(10, 1, -3);
        x.wholes(1, 2);
        x.pair(2, 1);
        x.back(3);
        holdAll(x, 1, 1, 77);
        due("go over the row's end", 4, x.go(3, 1));
        dueHand("go over the row's end", x, 2, 10, 77);
        due("go nowhere", 4, x.go(3, 0));
        due("go back", 0, x.go(3, -4));
        dueHand("go back", x, 1, 10, 77);
        due("go in BACK", 2, x.go(4, -5));
        dueHand("go in BACK", x, 2, 7);
        dueOut("go ahead of the first", () -> x.go(4, -3));
        dueOut("go behind the last", () -> x.go(4, 6));
        dueOut("go MAX", () -> x.go(4, MAX));
        dueOut("go MIN", () -> x.go(4, MIN));
        dueHand("THE HAND stays", x, 2, 7);
        due("no miss by that", 0, x.count(2));
        due("no miss by that", STATE, x.miss(0));
        holdAll(x, 2, 5);
        dueOut("go from what is missed", () -> x.go(3, 1));
        dueMiss("go from what is missed", x, 1, 1, 1);
        x.hold(0, MIN);
        due("go as far as can be told", MAX, x.go(0, MAX));
        dueHand("go as far as can be told", x, -1);
        dueOut("a place that can't be told", () -> x.go(0, 1));
        dueOut("a place that can't be told, MAX", () -> x.go(0, MAX));
        due("go all the way back", 0, x.go(0, -MAX));
        dueHand("go all the way back", x, MIN);
        x.hold(0, 0);
        due("go from MANY", LONG_STATE, x.go(0, 0));
        due("go from MANY, back", LONG_STATE, x.go(0, MIN));
        due("THE HAND stays", 0, x.held(0));
        due("go(5, 0)", LONG_UNKNOWN, x.go(5, 0));
        due("go(-1, 0)", LONG_UNKNOWN, x.go(-1, 0));
    }

    private static void promise17Miss() {
        IndexRanges x = new IndexRanges();
        due("miss(0)", STATE, x.miss(0));
        due("miss(2)", STATE, x.miss(2));
        due("miss(3): OUTSIDE is ahead", OUTSIDE, x.miss(3));
        due("miss(-1): OUTSIDE is ahead", OUTSIDE, x.miss(-1));
        x.wholes(1, 3);
        x.names(5, 4, 1);
        x.pair(0, 1);
        x.back(2);
        x.triple(3, 0, 3);
        x.back(4);
        holdAll(x, 1, 4, 2, 3, 2);
        due("has(5), the last one missed", 0, x.has(5));
        dueMiss("the last one", x, 1, 4, 4);
        x.hold(3, 0);
        due("has(5), the last two missed", 0, x.has(5));
        dueMiss("the first of them", x, 0, 3, 4);
        x.hold(2, 0);
        due("has(5), the third missed", 0, x.has(5));
        dueMiss("the third", x, 0, 2, 2);
        x.hold(1, 2);
        due("has(4)", 0, x.has(4));
        dueMiss("the second", x, 1, 1, 3);
        due("has(2)", 0, x.has(2));
        dueMiss("the same, asked nearer", x, 1, 1, 1);
        x.hold(0, 2);
        due("has(1)", 0, x.has(1));
        dueMiss("a single one", x, 1, 0, 0);
        due("has(0)", 1, x.has(0));
        dueMiss("it stays", x, 1, 0, 0);
        due("miss(3)", OUTSIDE, x.miss(3));
        due("count(2)", 6, x.count(2));
    }

    private static void promise18Within() {
        IndexRanges x = new IndexRanges();
        int all = x.wholes(MIN, MAX);
        int even = x.steps(MIN, MAX, 2);
        int odd = x.steps(MAX, MIN, -2);
        int fours = x.steps(MAX - 3, MIN, -4);
        int none = x.wholes(1, 0);
        int week = x.names(7, 5, 1);
        int toOne = x.signs(0, 1);
        int toSix = x.wholes(0, 6);
        int gap = x.steps(5, 6, 1);
        int single = x.steps(6, 8, 3);
        int pairOne = x.pair(week, even);
        int pairTwo = x.pair(toSix, all);
        int nonePair = x.pair(all, none);
        int sparse = x.steps(0, 6, 6);
        int sixes = x.steps(12, -12, -6);
        int threes = x.steps(-12, 12, 3);
        int shifted = x.steps(-11, 12, 3);
        int twenty = x.names(20, 0, 19);
        int toTwenty = x.wholes(0, 20);
        int toNineteen = x.wholes(0, 19);
        int[][] inside = {{all, all}, {even, all}, {odd, all}, {fours, even}, {none, all}, {none, none}, {none, week},
            {week, toSix}, {toOne, week}, {gap, week}, {single, gap}, {single, week}, {single, even}, {pairOne, pairTwo},
            {nonePair, pairOne}, {nonePair, nonePair}, {x.back(week), week}, {week, x.back(week)}, {sparse, week},
            {sixes, threes}, {toNineteen, twenty}, {twenty, toNineteen}, {twenty, toTwenty},
            {x.back(x.pair(toOne, toOne)), x.pair(week, week)}};
        for (int[] p : inside) {
            due("within(" + p[0] + ", " + p[1] + ")", 1, x.within(p[0], p[1]));
        }
        int[][] beside = {{all, even}, {even, odd}, {odd, even}, {even, fours}, {fours, odd}, {all, none}, {week, toOne},
            {toSix, week}, {week, none}, {gap, single}, {pairTwo, pairOne}, {pairOne, nonePair}, {none, nonePair},
            {nonePair, none}, {none, pairOne}, {all, week}, {threes, sixes}, {threes, shifted}, {toTwenty, twenty},
            {toSix, sparse}, {all, toSix}, {week, pairOne}};
        for (int[] p : beside) {
            due("within(" + p[0] + ", " + p[1] + ")", 0, x.within(p[0], p[1]));
        }
        due("within(0, 40)", UNKNOWN, x.within(0, 40));
        due("within(40, 0)", UNKNOWN, x.within(40, 0));
        due("within(-1, -1)", UNKNOWN, x.within(-1, -1));
        due("nothing is missed by it", 0, x.count(2));
    }

    private static void promise19Array() {
        IndexRanges x = new IndexRanges();
        x.wholes(1, 400);
        x.wholes(1, 401);
        x.wholes(0, MAX);
        x.wholes(1, 0);
        due("array(0)", 0, x.array(0));
        dueThrow("array(1)", IllegalArgumentException.class, () -> x.array(1));
        dueThrow("array(2)", NegativeArraySizeException.class, () -> x.array(2));
        due("array(4)", UNKNOWN, x.array(4));
        due("array(-1)", UNKNOWN, x.array(-1));
        due("array over none", 1, x.array(3));
        for (int k = 2; k < 6; k++) {
            due("array(0) again", k, x.array(0));
        }
        due("array: ROOM", ROOM, x.array(0));
        due("array: ROOM comes ahead of what is thrown", ROOM, x.array(1));
        due("array: ROOM comes ahead of what is thrown", ROOM, x.array(2));
        due("array: UNKNOWN comes ahead", UNKNOWN, x.array(4));
        due("arrays", 6, x.count(1));
        dueOut("at over none", () -> x.at(1));
    }

    private static void promise20Put() {
        IndexRanges x = new IndexRanges();
        x.wholes(1, 20);
        x.pair(0, 0);
        x.array(1);
        x.array(1);
        for (long a = 1; a <= 20; a++) {
            holdAll(x, a, 21 - a);
            due("put anew", 0, x.put(0, (int) (a * 100)));
        }
        holdAll(x, 7, 14);
        due("put again", 700, x.put(0, Integer.MIN_VALUE));
        due("put again", Integer.MIN_VALUE, x.put(0, Integer.MAX_VALUE));
        due("put a code", Integer.MAX_VALUE, x.put(0, UNKNOWN));
        due("it may be any number", UNKNOWN, x.put(0, 1));
        due("the other ARRAY", 0, x.put(1, 2));
        holdAll(x, 20, 20);
        due("the last cell", 0, x.put(0, 5));
        due("the last cell", 5, x.at(0));
        holdAll(x, 7, 21);
        dueOut("put of what is missed", () -> x.put(0, 9));
        dueMiss("put", x, 0, 1, 1);
        due("put(2, 1)", UNKNOWN, x.put(2, 1));
        due("put(-1, 1)", UNKNOWN, x.put(-1, 1));
        due("missed once", 1, x.count(2));
    }

    private static void promise21At() {
        IndexRanges x = new IndexRanges();
        x.names(5, 3, 1);
        x.back(0);
        x.array(0);
        x.array(1);
        for (long v : new long[] {3, 4, 0, 1}) {
            x.hold(0, v);
            x.put(0, (int) v + 50);
        }
        for (long v : new long[] {3, 4, 0, 1}) {
            x.hold(0, v);
            due("at(0)", v + 50, x.at(0));
            due("at(1)", 0, x.at(1));
        }
        x.hold(0, 2);
        dueOut("at of what is missed", () -> x.at(1));
        dueMiss("at", x, 0, 0, 1);
        due("at(2)", UNKNOWN, x.at(2));
        due("at(-1)", UNKNOWN, x.at(-1));
    }

    private static void promise22Sum() {
        IndexRanges x = new IndexRanges();
        x.wholes(1, 3);
        x.steps(9, 7, -1);
        x.pair(0, 1);
        x.back(2);
        x.array(3);
        for (int k = 0; k < 9; k++) {
            x.element(2, k);
            x.put(0, 1 << k);
        }
        holdAll(x, 5, 6, 7);
        due("sum(0, 0, 1)", 7, x.sum(0, 0, 1));
        due("sum(0, 0, 3)", 7 << 6, x.sum(0, 0, 3));
        due("sum(0, 1, 9)", 1 + 8 + 64, x.sum(0, 1, 9));
        due("sum(0, 1, 7)", 4 + 32 + 256, x.sum(0, 1, 7));
        due("sum of no cell", 0, x.sum(0, 1, 3));
        due("sum of no cell", 0, x.sum(0, 0, MIN));
        due("sum(0, 2, 0)", LONG_OUTSIDE, x.sum(0, 2, 0));
        due("sum(0, -1, 0)", LONG_OUTSIDE, x.sum(0, -1, 0));
        due("sum(1, 0, 0)", LONG_UNKNOWN, x.sum(1, 0, 0));
        due("sum(-1, 9, 0)", LONG_UNKNOWN, x.sum(-1, 9, 0));
        dueHand("THE HAND stays", x, 5, 6, 7);
        due("nothing is missed by it", 0, x.count(2));
        x.wholes(4, 4);
        x.wholes(1, 400);
        x.pair(4, 5);
        x.array(6);
        for (int k = 0; k < 4; k++) {
            x.element(6, k * 133);
            x.put(1, Integer.MAX_VALUE);
        }
        due("a sum above any int", 4L * Integer.MAX_VALUE, x.sum(1, 0, 4));
        due("its last cell", Integer.MAX_VALUE, x.sum(1, 1, 400));
    }

    private static void promise23Over() {
        IndexRanges x = new IndexRanges();
        x.wholes(1, 3);
        x.back(0);
        x.array(1);
        x.array(0);
        x.array(1);
        due("over(0)", 1, x.over(0));
        due("over(1)", 0, x.over(1));
        due("over(2)", 1, x.over(2));
        due("over(3)", UNKNOWN, x.over(3));
        due("over(-1)", UNKNOWN, x.over(-1));
    }

    private static void promise24Count() {
        IndexRanges x = new IndexRanges();
        x.wholes(1, 3);
        x.wholes(1, 0);
        x.pair(0, 0);
        x.array(0);
        x.array(1);
        x.array(2);
        x.array(2);
        x.has(0);
        x.has(2);
        due("count(0)", 3, x.count(0));
        due("count(1)", 4, x.count(1));
        due("count(2)", 2, x.count(2));
        due("count(3)", 3 + 9 + 9, x.count(3));
        due("count(4)", OUTSIDE, x.count(4));
        due("count(-1)", OUTSIDE, x.count(-1));
    }

    private static void promise25Clear() {
        IndexRanges x = new IndexRanges();
        x.wholes(1, 3);
        x.pair(0, 0);
        x.array(0);
        x.has(0);
        holdAll(x, 1, 2, 3, 4, 5, 6, 7, 8);
        x.put(0, 9);
        due("clear()", 2, x.clear());
        for (int what = 0; what < 4; what++) {
            due("cleared: count(" + what + ")", 0, x.count(what));
        }
        due("cleared: miss(0)", STATE, x.miss(0));
        due("cleared: size(0)", LONG_UNKNOWN, x.size(0));
        due("cleared: at(0)", UNKNOWN, x.at(0));
        dueHand("cleared", x, 0, 0, 0, 0, 0, 0, 0, 0);
        due("clear() again", 0, x.clear());
        due("numbers begin at 0", 0, x.steps(0, 4, 2));
        due("numbers begin at 0", 0, x.array(0));
        due("cells begin at 0", 0, x.at(0));
        due("its size", 3, x.size(0));
    }

    public static void main(String[] args) {
        runTests(PromisesTest.class);
    }
}
