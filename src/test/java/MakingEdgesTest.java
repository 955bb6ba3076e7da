/** The edges of promises 1 to 8: a new object, and the calls that make RANGES. */
public final class MakingEdgesTest extends Checks {

    /** The fortieth RANGE is made, the one behind it is refused. */
    private static void dueRoomForForty(Ask make) {
        IndexRanges x = sample();
        fillWithRangesUpTo(x, 39);
        due("the fortieth", 39, make.answer(x));
        due("it is there", 40, x.count(0));
        dueRefused("one more", x, ROOM, make);
    }

    private static void dueOutside(Ask... calls) {
        for (int k = 0; k < calls.length; k++) {
            dueRefused("call " + k, sample(), OUTSIDE, calls[k]);
        }
    }

    // ---- promise 1: no RANGES, no ARRAYS, nothing MISSED

    private static void promise1NewObjectHasNoRanges() {
        IndexRanges x = new IndexRanges();
        due("count(0)", 0, x.count(0));
        due("size(0)", LONG_UNKNOWN, x.size(0));
        due("the first one", 0, x.wholes(1, 2));
    }

    private static void promise1NewObjectHasNoArrays() {
        IndexRanges x = new IndexRanges();
        due("count(1)", 0, x.count(1));
        due("count(3)", 0, x.count(3));
        due("over(0)", UNKNOWN, x.over(0));
        x.wholes(1, 2);
        due("the first one", 0, x.array(0));
    }

    private static void promise1NewObjectHasNothingMissed() {
        IndexRanges x = new IndexRanges();
        due("count(2)", 0, x.count(2));
        for (int what = 0; what < 3; what++) {
            due("miss(" + what + ")", STATE, x.miss(what));
        }
    }

    private static void promise1ObjectsStandApart() {
        IndexRanges x = sample();
        IndexRanges y = new IndexRanges();
        due("RANGES of the new one", 0, y.count(0));
        due("the new one's HAND", 0, y.held(0));
        y.wholes(4, 9);
        y.array(0);
        y.hold(0, 5);
        y.put(0, 99);
        due("RANGES of the old one", 8, x.count(0));
        due("the old one's HAND", 3, x.held(0));
        due("the old one's cell", 7, x.at(0));
    }

    // ---- promise 2: WHOLES: a, a + 1, .. b; none, if b is less. ROOM

    private static void promise2WholesToOneLessAreNone() {
        IndexRanges x = new IndexRanges();
        dueRow("wholes(7, 6)", x, x.wholes(7, 6));
        dueRow("wholes(7, 7)", x, x.wholes(7, 7), 7);
        dueRow("wholes(7, 8)", x, x.wholes(7, 8), 7, 8);
    }

    private static void promise2WholesOverZero() {
        IndexRanges x = new IndexRanges();
        dueRow("wholes(-2, 2)", x, x.wholes(-2, 2), -2, -1, 0, 1, 2);
        dueRow("wholes(0, -1)", x, x.wholes(0, -1));
    }

    private static void promise2WholesAtTheLargestLong() {
        IndexRanges x = new IndexRanges();
        dueRow("the last two", x, x.wholes(MAX - 1, MAX), MAX - 1, MAX);
        dueRow("the last", x, x.wholes(MAX, MAX), MAX);
        dueRow("none", x, x.wholes(MAX, MAX - 1));
        dueHas("it does not go round", x, 0, 0, MIN, MAX - 2, 0);
    }

    private static void promise2WholesAtTheLeastLong() {
        IndexRanges x = new IndexRanges();
        dueRow("the first two", x, x.wholes(MIN, MIN + 1), MIN, MIN + 1);
        dueRow("the first", x, x.wholes(MIN, MIN), MIN);
        dueRow("none", x, x.wholes(MIN + 1, MIN));
        dueHas("it does not go round", x, 0, 0, MAX, MIN + 2, 0);
    }

    private static void promise2WholesFarBackAreNone() {
        IndexRanges x = new IndexRanges();
        dueRow("wholes(MAX, MIN)", x, x.wholes(MAX, MIN));
        dueRow("wholes(1, MIN)", x, x.wholes(1, MIN));
        dueRow("wholes(MAX, -1)", x, x.wholes(MAX, -1));
        dueRow("wholes(0, MIN)", x, x.wholes(0, MIN));
    }

    private static void promise2WholesHaveTheirEndsAndNoneBeside() {
        IndexRanges x = new IndexRanges();
        int some = x.wholes(-3, 4);
        dueHas("the ends", x, some, 1, -3, 4);
        dueHas("beside the ends", x, some, 0, -4, 5, MIN, MAX);
        int all = x.wholes(MIN, MAX);
        dueHas("all", x, all, 1, MIN, -1, 0, 1, MAX);
    }

    private static void promise2WholesRoom() {
        dueRoomForForty(x -> x.wholes(1, 3));
    }

    private static void promise2WholesThatAreNoneNeedRoomToo() {
        dueRoomForForty(x -> x.wholes(3, 1));
    }

    // ---- promise 3: SIGNS: likewise, of 0 to 65535. OUTSIDE; ROOM

    private static void promise3SignsFromZero() {
        IndexRanges x = new IndexRanges();
        dueRow("signs(0, 2)", x, x.signs(0, 2), 0, 1, 2);
        dueOutside(y -> y.signs(-1, 2), y -> y.signs(LEAST_INT, 2));
    }

    private static void promise3SignsFrom65535() {
        IndexRanges x = new IndexRanges();
        dueRow("signs(65535, 65535)", x, x.signs(65535, 65535), 65535);
        dueOutside(y -> y.signs(65536, 65535), y -> y.signs(MOST_INT, 65535));
    }

    private static void promise3SignsToZero() {
        IndexRanges x = new IndexRanges();
        dueRow("signs(0, 0)", x, x.signs(0, 0), 0);
        dueOutside(y -> y.signs(0, -1), y -> y.signs(0, LEAST_INT));
    }

    private static void promise3SignsTo65535() {
        IndexRanges x = new IndexRanges();
        dueRow("signs(65534, 65535)", x, x.signs(65534, 65535), 65534, 65535);
        dueOutside(y -> y.signs(65534, 65536), y -> y.signs(65534, MOST_INT), y -> y.signs(65536, 65536));
    }

    private static void promise3SignsAllOfThem() {
        IndexRanges x = new IndexRanges();
        due("size", 65536, x.size(x.signs(0, 65535)));
        dueHas("the ends", x, 0, 1, 0, 65535);
        dueHas("beside the ends", x, 0, 0, -1, 65536);
        dueHas("what is a sign in 16 or 32 bits only", x, 0, 0, 65536 + 97, (1L << 32) + 97, MIN, MAX);
    }

    private static void promise3SignsToOneLessAreNone() {
        IndexRanges x = new IndexRanges();
        dueRow("signs(9, 8)", x, x.signs(9, 8));
        dueRow("signs(9, 9)", x, x.signs(9, 9), 9);
        dueRow("signs(65535, 0)", x, x.signs(65535, 0));
        dueRow("signs(1, 0)", x, x.signs(1, 0));
    }

    private static void promise3SignsThatWouldBeNoneAreOutsideToo() {
        dueOutside(x -> x.signs(5, -1), x -> x.signs(65536, 0), x -> x.signs(-1, -2));
    }

    private static void promise3SignsRoom() {
        dueRoomForForty(x -> x.signs(0, 65535));
    }

    private static void promise3SignsOutsideComesAheadOfRoom() {
        dueRefused("a", fullSample(), OUTSIDE, x -> x.signs(-1, 0));
        dueRefused("b", fullSample(), OUTSIDE, x -> x.signs(0, 65536));
    }

    // ---- promise 4: NAMES of n (1 to 20), from a to b (0 to n - 1), 0 coming behind n - 1. OUTSIDE; ROOM

    private static void promise4NamesOfOneButNotOfNone() {
        IndexRanges x = new IndexRanges();
        dueRow("names(1, 0, 0)", x, x.names(1, 0, 0), 0);
        dueOutside(y -> y.names(0, 0, 0), y -> y.names(-1, 0, 0), y -> y.names(0, 0, -1), y -> y.names(0, -1, -1),
            y -> y.names(LEAST_INT, 0, 0));
    }

    private static void promise4NamesOfTwentyButNotOfMore() {
        IndexRanges x = new IndexRanges();
        dueRow("names(20, 18, 1)", x, x.names(20, 18, 1), 18, 19, 0, 1);
        dueOutside(y -> y.names(21, 18, 1), y -> y.names(MOST_INT, 0, 0));
    }

    private static void promise4NamesFromZeroButNotFromBelow() {
        IndexRanges x = new IndexRanges();
        dueRow("names(7, 0, 2)", x, x.names(7, 0, 2), 0, 1, 2);
        dueOutside(y -> y.names(7, -1, 2), y -> y.names(7, LEAST_INT, 2));
    }

    private static void promise4NamesFromTheLastOneButNotFromBehind() {
        IndexRanges x = new IndexRanges();
        dueRow("names(7, 6, 2)", x, x.names(7, 6, 2), 6, 0, 1, 2);
        dueOutside(y -> y.names(7, 7, 2), y -> y.names(7, 8, 2), y -> y.names(1, 1, 0), y -> y.names(20, 20, 0),
            y -> y.names(7, MOST_INT, 2));
    }

    private static void promise4NamesToZeroButNotToBelow() {
        IndexRanges x = new IndexRanges();
        dueRow("names(7, 5, 0)", x, x.names(7, 5, 0), 5, 6, 0);
        dueOutside(y -> y.names(7, 5, -1), y -> y.names(7, 5, LEAST_INT));
    }

    private static void promise4NamesToTheLastOneButNotToBehind() {
        IndexRanges x = new IndexRanges();
        dueRow("names(7, 4, 6)", x, x.names(7, 4, 6), 4, 5, 6);
        dueOutside(y -> y.names(7, 4, 7), y -> y.names(7, 4, 8), y -> y.names(1, 0, 1), y -> y.names(20, 0, 20),
            y -> y.names(7, 4, MOST_INT));
    }

    private static void promise4NamesGoRoundBehindTheLastOne() {
        IndexRanges x = new IndexRanges();
        dueRow("names(7, 5, 1)", x, x.names(7, 5, 1), 5, 6, 0, 1);
        dueRow("names(2, 1, 0)", x, x.names(2, 1, 0), 1, 0);
        dueRow("names(20, 19, 0)", x, x.names(20, 19, 0), 19, 0);
    }

    private static void promise4NamesFromOneToItselfAreOne() {
        IndexRanges x = new IndexRanges();
        dueRow("names(7, 3, 3)", x, x.names(7, 3, 3), 3);
        dueRow("names(7, 0, 0)", x, x.names(7, 0, 0), 0);
        dueRow("names(7, 6, 6)", x, x.names(7, 6, 6), 6);
    }

    private static void promise4NamesUpToTheOneAheadAreAll() {
        IndexRanges x = new IndexRanges();
        dueRow("names(4, 3, 2)", x, x.names(4, 3, 2), 3, 0, 1, 2);
        dueRow("names(4, 1, 0)", x, x.names(4, 1, 0), 1, 2, 3, 0);
        dueRow("names(4, 0, 3)", x, x.names(4, 0, 3), 0, 1, 2, 3);
        due("names(20, 10, 9)", 20, x.size(x.names(20, 10, 9)));
        due("names(20, 0, 19)", 20, x.size(x.names(20, 0, 19)));
    }

    private static void promise4NamesHaveNoneOfTheGap() {
        IndexRanges x = new IndexRanges();
        int round = x.names(7, 5, 1);
        dueHas("its ends", x, round, 1, 5, 6, 0, 1);
        dueHas("the gap", x, round, 0, 2, 3, 4);
        dueHas("beside all", x, round, 0, -1, 7);
        int straight = x.names(7, 2, 4);
        dueHas("its ends", x, straight, 1, 2, 4);
        dueHas("beside its ends", x, straight, 0, 1, 5, 0, 6);
    }

    private static void promise4NamesAreNotHeldRoundOrWrapped() {
        IndexRanges x = new IndexRanges();
        int all = x.names(7, 3, 2);
        dueHas("all", x, all, 1, 0, 1, 2, 3, 4, 5, 6);
        dueHas("once round", x, all, 0, 7, 10, 14, -1, -7);
        dueHas("what is a name in 32 bits only", x, all, 0, (1L << 32) + 3, MIN, MAX, MIN + 3);
    }

    private static void promise4NamesRoom() {
        dueRoomForForty(x -> x.names(20, 19, 0));
    }

    private static void promise4NamesOutsideComesAheadOfRoom() {
        dueRefused("n", fullSample(), OUTSIDE, x -> x.names(0, 0, 0));
        dueRefused("a", fullSample(), OUTSIDE, x -> x.names(7, 7, 0));
        dueRefused("b", fullSample(), OUTSIDE, x -> x.names(7, 0, 7));
    }

    // ---- promise 5: STEPS of s (-1000000 to 1000000, not 0), as long as they are not beyond b. OUTSIDE; ROOM

    private static void promise5StepsOfAMillionButNotOfMore() {
        IndexRanges x = new IndexRanges();
        dueRow("steps of 1000000", x, x.steps(1, 2000001, 1000000), 1, 1000001, 2000001);
        dueOutside(y -> y.steps(1, 2000001, 1000001), y -> y.steps(1, 2, MOST_INT));
    }

    private static void promise5StepsOfAMillionBackButNotOfMore() {
        IndexRanges x = new IndexRanges();
        dueRow("steps of -1000000", x, x.steps(1, -1999999, -1000000), 1, -999999, -1999999);
        dueOutside(y -> y.steps(1, -1999999, -1000001), y -> y.steps(2, 1, LEAST_INT));
    }

    private static void promise5StepsOfOneEachWayButNotOfNone() {
        IndexRanges x = new IndexRanges();
        dueRow("steps of 1", x, x.steps(1, 3, 1), 1, 2, 3);
        dueRow("steps of -1", x, x.steps(3, 1, -1), 3, 2, 1);
        dueOutside(y -> y.steps(1, 3, 0), y -> y.steps(3, 1, 0), y -> y.steps(2, 2, 0));
    }

    private static void promise5StepsUpAreNotAboveTheEnd() {
        IndexRanges x = new IndexRanges();
        dueRow("one short", x, x.steps(1, 6, 3), 1, 4);
        dueRow("just there", x, x.steps(1, 7, 3), 1, 4, 7);
        dueRow("one over", x, x.steps(1, 8, 3), 1, 4, 7);
        dueHas("between and beside", x, 1, 0, 0, 2, 3, 5, 6, 8, 10, -2);
    }

    private static void promise5StepsDownAreNotBelowTheEnd() {
        IndexRanges x = new IndexRanges();
        dueRow("one short", x, x.steps(7, 2, -3), 7, 4);
        dueRow("just there", x, x.steps(7, 1, -3), 7, 4, 1);
        dueRow("one over", x, x.steps(7, 0, -3), 7, 4, 1);
        dueHas("between and beside", x, 1, 0, 8, 6, 5, 3, 2, 0, -2, 10);
    }

    private static void promise5StepsFromBeyondTheEndAreNone() {
        IndexRanges x = new IndexRanges();
        dueRow("up from one above", x, x.steps(5, 4, 1));
        dueRow("up from the end", x, x.steps(4, 4, 1), 4);
        dueRow("down from one below", x, x.steps(4, 5, -1));
        dueRow("down from the end", x, x.steps(5, 5, -1), 5);
        dueRow("up from far above", x, x.steps(MAX, MIN, 1000000));
        dueRow("down from far below", x, x.steps(MIN, MAX, -1000000));
    }

    private static void promise5StepsWiderThanTheWayAreOne() {
        IndexRanges x = new IndexRanges();
        dueRow("up", x, x.steps(4, 12, 9), 4);
        dueRow("up, just two", x, x.steps(4, 13, 9), 4, 13);
        dueRow("down", x, x.steps(4, -4, -9), 4);
        dueRow("down, just two", x, x.steps(4, -5, -9), 4, -5);
    }

    private static void promise5StepsDoNotWrapAtTheLargestLong() {
        IndexRanges x = new IndexRanges();
        dueRow("by 2 to it", x, x.steps(MAX - 2, MAX, 2), MAX - 2, MAX);
        dueRow("by 2 over it", x, x.steps(MAX - 1, MAX, 2), MAX - 1);
        dueRow("by 1000000 over it", x, x.steps(MAX - 999999, MAX, 1000000), MAX - 999999);
        dueRow("by 1000000 to it", x, x.steps(MAX - 1000000, MAX, 1000000), MAX - 1000000, MAX);
        dueHas("what would come behind it", x, 1, 0, MIN, MIN + 1, MAX);
    }

    private static void promise5StepsDoNotWrapAtTheLeastLong() {
        IndexRanges x = new IndexRanges();
        dueRow("by -2 to it", x, x.steps(MIN + 2, MIN, -2), MIN + 2, MIN);
        dueRow("by -2 over it", x, x.steps(MIN + 1, MIN, -2), MIN + 1);
        dueRow("by -1000000 over it", x, x.steps(MIN + 999999, MIN, -1000000), MIN + 999999);
        dueRow("by -1000000 to it", x, x.steps(MIN + 1000000, MIN, -1000000), MIN + 1000000, MIN);
        dueHas("what would come behind it", x, 1, 0, MAX, MAX - 1, MIN);
    }

    private static void promise5StepsThroughAllUp() {
        IndexRanges x = new IndexRanges();
        x.steps(MIN, MAX, 3);
        due("element", 1, x.element(0, 6148914691236517205L));
        due("the last one", MAX, x.held(0));
        due("its index", 6148914691236517205L, x.index(0));
        dueHas("the steps", x, 0, 1, MIN, MIN + 3, MAX - 3, MAX);
        dueHas("between", x, 0, 0, MIN + 1, MIN + 2, MAX - 2, MAX - 1);
        dueOut("one behind", () -> x.element(0, 6148914691236517206L));
    }

    private static void promise5StepsThroughAllDown() {
        IndexRanges x = new IndexRanges();
        x.steps(MAX, MIN, -1000000);
        due("element", 1, x.element(0, 18446744073709L));
        due("the last one", MAX - 18446744073709L * 1000000L, x.held(0));
        due("its index", 18446744073709L, x.index(0));
        dueHas("the steps", x, 0, 1, MAX, MAX - 1000000);
        dueHas("between", x, 0, 0, MAX - 1, MAX - 999999, MAX - 1000001, MIN);
        dueOut("one behind", () -> x.element(0, 18446744073710L));
    }

    private static void promise5StepsRoom() {
        dueRoomForForty(x -> x.steps(1, 9, 2));
    }

    private static void promise5StepsThatAreNoneNeedRoomToo() {
        dueRoomForForty(x -> x.steps(1, 9, -2));
    }

    private static void promise5StepsOutsideComesAheadOfRoom() {
        dueRefused("0", fullSample(), OUTSIDE, x -> x.steps(1, 9, 0));
        dueRefused("1000001", fullSample(), OUTSIDE, x -> x.steps(1, 9, 1000001));
        dueRefused("-1000001", fullSample(), OUTSIDE, x -> x.steps(9, 1, -1000001));
    }

    // ---- promise 6: BACK: the last one first. UNKNOWN; STATE: it is MANY; ROOM

    private static void promise6BackIsTheLastOneFirst() {
        IndexRanges x = new IndexRanges();
        dueRow("of WHOLES", x, x.back(x.wholes(3, 5)), 5, 4, 3);
        dueRow("of SIGNS", x, x.back(x.signs(0, 1)), 1, 0);
        dueRow("of NAMES", x, x.back(x.names(5, 4, 1)), 1, 0, 4);
        dueRow("of STEPS", x, x.back(x.steps(1, 8, 3)), 7, 4, 1);
    }

    private static void promise6BackOfBackIsTheFirstOneFirst() {
        IndexRanges x = new IndexRanges();
        dueRow("back of back", x, x.back(x.back(x.wholes(3, 5))), 3, 4, 5);
    }

    private static void promise6BackOfNoneAndOfOne() {
        IndexRanges x = new IndexRanges();
        dueRow("of none", x, x.back(x.wholes(3, 2)));
        dueRow("of one", x, x.back(x.wholes(3, 3)), 3);
    }

    private static void promise6BackAtTheEndsOfLongs() {
        IndexRanges x = new IndexRanges();
        dueRow("the largest", x, x.back(x.wholes(MAX - 1, MAX)), MAX, MAX - 1);
        dueRow("the least", x, x.back(x.wholes(MIN, MIN + 1)), MIN + 1, MIN);
    }

    private static void promise6BackOfTheLargestSizeButNotOfMany() {
        IndexRanges x = new IndexRanges();
        x.wholes(1, MAX);
        due("of 9223372036854775807", 1, x.back(0));
        due("its size", MAX, x.size(1));
        due("its first one", 1, x.element(1, 0));
        due("its first one", MAX, x.held(0));
        due("index of it", 0, x.index(1));
        due("its last one", 1, x.element(1, MAX - 1));
        due("its last one", 1, x.held(0));
        due("index of it", MAX - 1, x.index(1));
        dueOut("behind its last one", () -> x.element(1, MAX));
        x.wholes(0, MAX);
        dueRefused("of one more", x, STATE, y -> y.back(2));
    }

    private static void promise6BackOfManyIsRefusedForEachKind() {
        IndexRanges x = new IndexRanges();
        int two = x.wholes(1, 2);
        int[] many = {x.wholes(MIN, MAX), x.steps(MIN, MAX, 2), x.steps(MAX, MIN, -2), x.pair(x.wholes(1, MAX), two),
            x.triple(two, x.wholes(1, 1L << 61), two)};
        for (int range : many) {
            dueRefused("of RANGE " + range, x, STATE, y -> y.back(range));
        }
    }

    private static void promise6BackOfJustNotManyIsMadeForEachKind() {
        IndexRanges x = new IndexRanges();
        int two = x.wholes(1, 2);
        int[] largest = {x.wholes(MIN, -2), x.steps(MIN, MAX - 2, 2), x.steps(MAX, MIN + 2, -2),
            x.pair(x.wholes(1, MAX / 7), x.wholes(1, 7)), x.triple(two, x.wholes(2, 1L << 61), two)};
        for (int range : largest) {
            int made = x.back(range);
            due("of RANGE " + range, x.count(0) - 1, made);
            due("its size", x.size(range), x.size(made));
            due("its last element", x.told(range, 1), x.element(made, x.size(range) - 1));
            due("index of it", x.size(range) - 1, x.index(made));
            due("it is the first one of what it is BACK of", 0, x.index(range));
        }
    }

    private static void promise6BackOfNoneMadeOfMany() {
        IndexRanges x = new IndexRanges();
        int made = x.back(x.pair(x.wholes(MIN, MAX), x.wholes(1, 0)));
        due("it is made", 3, made);
        due("its size", 0, x.size(made));
        dueOut("element", () -> x.element(made, 0));
    }

    private static void promise6BackUnknown() {
        dueUnknownRange("back", UNKNOWN, (x, range) -> x.back(range));
    }

    private static void promise6BackRoom() {
        dueRoomForForty(x -> x.back(2));
    }

    private static void promise6BackUnknownAndStateComeAheadOfRoom() {
        dueRefused("UNKNOWN", fullSample(), UNKNOWN, x -> x.back(40));
        dueRefused("UNKNOWN", fullSample(), UNKNOWN, x -> x.back(-1));
        dueRefused("STATE", fullSample(), STATE, x -> x.back(3));
    }

    // ---- promise 7: PAIR. UNKNOWN; STATE: WIDTHS above 8; ROOM

    private static void promise7PairWidthsOfEightButNotOfNine() {
        int[][] widths = {{4, 4}, {7, 1}, {1, 7}, {5, 3}, {3, 5}};
        for (int[] w : widths) {
            IndexRanges x = new IndexRanges();
            int first = ofWidth(x, w[0]);
            int second = ofWidth(x, w[1]);
            int made = x.count(0);
            due("widths " + w[0] + " and " + w[1], made, x.pair(first, second));
            due("WIDTH", 8, x.told(made, 1));
        }
        int[][] over = {{5, 4}, {4, 5}, {8, 1}, {1, 8}, {7, 2}, {2, 7}, {8, 8}};
        for (int[] w : over) {
            IndexRanges x = new IndexRanges();
            int first = ofWidth(x, w[0]);
            int second = ofWidth(x, w[1]);
            dueRefused("widths " + w[0] + " and " + w[1], x, STATE, y -> y.pair(first, second));
        }
    }

    private static void promise7PairWidthsOfNoneAndManyCountToo() {
        IndexRanges x = new IndexRanges();
        int wide = ofWidth(x, 8);
        int none = x.wholes(1, 0);
        int many = x.wholes(MIN, MAX);
        dueRefused("with none", x, STATE, y -> y.pair(wide, none));
        dueRefused("with MANY", x, STATE, y -> y.pair(many, wide));
    }

    private static void promise7PairOfNoneIsNone() {
        IndexRanges x = new IndexRanges();
        x.wholes(1, 3);
        x.wholes(1, 0);
        dueRows("none behind", x, x.pair(0, 1), new long[0][]);
        dueRows("none in front", x, x.pair(1, 0), new long[0][]);
        dueRows("none twice", x, x.pair(1, 1), new long[0][]);
    }

    private static void promise7PairOfARangeWithItself() {
        IndexRanges x = new IndexRanges();
        x.wholes(1, 2);
        dueRows("twice the same", x, x.pair(0, 0), new long[][] {{1, 1}, {1, 2}, {2, 1}, {2, 2}});
    }

    private static void promise7PairWithAPartOfOneElement() {
        IndexRanges x = new IndexRanges();
        x.wholes(1, 3);
        x.names(5, 4, 4);
        dueRows("one behind", x, x.pair(0, 1), new long[][] {{1, 4}, {2, 4}, {3, 4}});
        dueRows("one in front", x, x.pair(1, 0), new long[][] {{4, 1}, {4, 2}, {4, 3}});
        dueRows("one twice", x, x.pair(1, 1), new long[][] {{4, 4}});
    }

    private static void promise7PairUnknown() {
        dueUnknownRange("pair, first", UNKNOWN, (x, range) -> x.pair(range, 0));
        dueUnknownRange("pair, both", UNKNOWN, (x, range) -> x.pair(range, range));
        for (int range : new int[] {-1, 8, LEAST_INT, MOST_INT}) {
            dueRefused("pair, second " + range, sample(), UNKNOWN, x -> x.pair(0, range));
        }
        IndexRanges x = sample();
        due("pair, second the last there is", 8, x.pair(0, 7));
    }

    private static void promise7PairRoom() {
        dueRoomForForty(x -> x.pair(0, 1));
    }

    private static void promise7PairUnknownAndStateComeAheadOfRoom() {
        dueRefused("UNKNOWN", fullSample(), UNKNOWN, x -> x.pair(0, 40));
        dueRefused("UNKNOWN", fullSample(), UNKNOWN, x -> x.pair(-1, 0));
        dueRefused("STATE", fullSample(), STATE, x -> x.pair(0, 6));
        dueRefused("ROOM at WIDTH 8", fullSample(), ROOM, x -> x.pair(5, 5));
    }

    private static void promise7PairUnknownComesAheadOfState() {
        dueRefused("the second", sample(), UNKNOWN, x -> x.pair(6, 8));
        dueRefused("the first", sample(), UNKNOWN, x -> x.pair(-1, 6));
    }

    // ---- promise 8: TRIPLE. UNKNOWN; STATE; ROOM

    private static void promise8TripleWidthsOfEightButNotOfNine() {
        int[][] widths = {{6, 1, 1}, {1, 6, 1}, {1, 1, 6}, {3, 3, 2}, {2, 4, 2}};
        for (int[] w : widths) {
            IndexRanges x = new IndexRanges();
            int[] parts = {ofWidth(x, w[0]), ofWidth(x, w[1]), ofWidth(x, w[2])};
            int made = x.count(0);
            due("widths " + w[0] + ", " + w[1] + ", " + w[2], made, x.triple(parts[0], parts[1], parts[2]));
            due("WIDTH", 8, x.told(made, 1));
        }
        int[][] over = {{7, 1, 1}, {1, 7, 1}, {1, 1, 7}, {3, 3, 3}, {4, 4, 1}, {8, 8, 8}};
        for (int[] w : over) {
            IndexRanges x = new IndexRanges();
            int[] parts = {ofWidth(x, w[0]), ofWidth(x, w[1]), ofWidth(x, w[2])};
            dueRefused("widths " + w[0] + ", " + w[1] + ", " + w[2], x, STATE, y -> y.triple(parts[0], parts[1], parts[2]));
        }
    }

    private static void promise8TripleOfNoneIsNone() {
        IndexRanges x = new IndexRanges();
        x.wholes(1, 3);
        x.wholes(1, 0);
        dueRows("none first", x, x.triple(1, 0, 0), new long[0][]);
        dueRows("none in the middle", x, x.triple(0, 1, 0), new long[0][]);
        dueRows("none last", x, x.triple(0, 0, 1), new long[0][]);
    }

    private static void promise8TripleWithPartsOfOneElement() {
        IndexRanges x = new IndexRanges();
        x.wholes(1, 2);
        x.steps(9, 8, -2);
        dueRows("one first", x, x.triple(1, 0, 0), new long[][] {{9, 1, 1}, {9, 1, 2}, {9, 2, 1}, {9, 2, 2}});
        dueRows("one in the middle", x, x.triple(0, 1, 0), new long[][] {{1, 9, 1}, {1, 9, 2}, {2, 9, 1}, {2, 9, 2}});
        dueRows("one last", x, x.triple(0, 0, 1), new long[][] {{1, 1, 9}, {1, 2, 9}, {2, 1, 9}, {2, 2, 9}});
        dueRows("one thrice", x, x.triple(1, 1, 1), new long[][] {{9, 9, 9}});
    }

    private static void promise8TripleUnknown() {
        dueUnknownRange("triple, first", UNKNOWN, (x, range) -> x.triple(range, 0, 0));
        for (int range : new int[] {-1, 8, LEAST_INT, MOST_INT}) {
            dueRefused("triple, second " + range, sample(), UNKNOWN, x -> x.triple(0, range, 0));
            dueRefused("triple, third " + range, sample(), UNKNOWN, x -> x.triple(0, 0, range));
        }
        due("triple, second the last there is", 8, sample().triple(0, 7, 0));
        due("triple, third the last there is", 8, sample().triple(0, 0, 7));
    }

    private static void promise8TripleRoom() {
        dueRoomForForty(x -> x.triple(0, 1, 2));
    }

    private static void promise8TripleUnknownAndStateComeAheadOfRoom() {
        dueRefused("UNKNOWN, first", fullSample(), UNKNOWN, x -> x.triple(40, 0, 0));
        dueRefused("UNKNOWN, second", fullSample(), UNKNOWN, x -> x.triple(0, 40, 0));
        dueRefused("UNKNOWN, third", fullSample(), UNKNOWN, x -> x.triple(0, 0, 40));
        dueRefused("STATE", fullSample(), STATE, x -> x.triple(5, 5, 0));
        dueRefused("ROOM at WIDTH 8", fullSample(), ROOM, x -> x.triple(2, 2, 5));
    }

    private static void promise8TripleUnknownComesAheadOfState() {
        dueRefused("the first", sample(), UNKNOWN, x -> x.triple(8, 6, 6));
        dueRefused("the second", sample(), UNKNOWN, x -> x.triple(6, 8, 6));
        dueRefused("the third", sample(), UNKNOWN, x -> x.triple(6, 6, 8));
    }

    public static void main(String[] args) {
        runTests(MakingEdgesTest.class);
    }
}
