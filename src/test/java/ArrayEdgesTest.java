/** The edges of promises 19 to 25: ARRAYS, counts and clear. */
public final class ArrayEdgesTest extends Checks {

    // ---- promise 19: UNKNOWN; ROOM: 6 are there. NegativeArraySizeException: MANY. IllegalArgumentException: above 400

    private static void promise19ArrayOverFourHundredButNotOverMore() {
        IndexRanges x = new IndexRanges();
        x.wholes(1, 400);
        x.wholes(1, 401);
        due("400", 0, x.array(0));
        due("cells", 400, x.count(3));
        dueRefusedByThrow("401", x, IllegalArgumentException.class, y -> y.array(1));
    }

    private static void promise19ArrayOverFourHundredOfEachKind() {
        IndexRanges x = new IndexRanges();
        int twenty = x.names(20, 5, 4);
        due("SIGNS", 0, x.array(x.signs(65136, 65535)));
        due("STEPS", 1, x.array(x.steps(0, -3990, -10)));
        due("PAIR", 2, x.array(x.pair(twenty, twenty)));
        due("TRIPLE", 3, x.array(x.triple(x.wholes(1, 5), twenty, x.wholes(1, 4))));
        due("BACK", 4, x.array(x.back(1)));
        due("cells", 2000, x.count(3));
    }

    private static void promise19ArrayOverMoreOfEachKind() {
        IndexRanges x = new IndexRanges();
        int three = x.wholes(1, 3);
        int[] more = {x.signs(65135, 65535), x.steps(0, -4000, -10), x.pair(x.wholes(1, 134), three),
            x.triple(three, three, x.wholes(1, 45)), x.back(1)};
        for (int range : more) {
            dueRefusedByThrow("RANGE " + range, x, IllegalArgumentException.class, y -> y.array(range));
        }
    }

    private static void promise19ArrayOverNone() {
        IndexRanges x = new IndexRanges();
        x.wholes(1, 0);
        due("array", 0, x.array(0));
        due("ARRAYS", 1, x.count(1));
        due("cells", 0, x.count(3));
        dueOut("at", () -> x.at(0));
        dueOut("put", () -> x.put(0, 1));
        due("sum", 0, x.sum(0, 0, 0));
    }

    private static void promise19ArrayOverNoneMadeOfMany() {
        IndexRanges x = new IndexRanges();
        x.wholes(MIN, MAX);
        x.wholes(1, 0);
        x.pair(0, 1);
        due("array", 0, x.array(2));
        due("sum", 0, x.sum(0, 0, MIN));
        due("sum", 0, x.sum(0, 1, 1));
    }

    private static void promise19ArrayOverTheLargestSizeIsNotMany() {
        IndexRanges x = new IndexRanges();
        x.wholes(1, MAX);
        x.wholes(0, MAX);
        dueRefusedByThrow("the largest", x, IllegalArgumentException.class, y -> y.array(0));
        dueRefusedByThrow("one more", x, NegativeArraySizeException.class, y -> y.array(1));
    }

    private static void promise19ArrayOverManyOfEachKind() {
        IndexRanges x = new IndexRanges();
        int power = x.wholes(1, 1L << 32);
        int[] many = {x.wholes(MIN, MAX), x.steps(MAX, MIN, -2), x.pair(power, power), x.triple(power, power, power)};
        for (int range : many) {
            dueRefusedByThrow("RANGE " + range, x, NegativeArraySizeException.class, y -> y.array(range));
        }
    }

    private static void promise19ArrayOverSizesThatAreSmallInThirtyTwoBits() {
        IndexRanges x = new IndexRanges();
        x.wholes(1, 1L << 32);
        x.wholes(1, (1L << 32) + 5);
        dueRefusedByThrow("0 in 32 bits", x, IllegalArgumentException.class, y -> y.array(0));
        dueRefusedByThrow("5 in 32 bits", x, IllegalArgumentException.class, y -> y.array(1));
    }

    private static void promise19ArrayRoomForSix() {
        IndexRanges x = sample();
        for (int array = 2; array < 6; array++) {
            due("array", array, x.array(7));
        }
        due("ARRAYS", 6, x.count(1));
        dueRefused("one more", x, ROOM, y -> y.array(7));
    }

    private static void promise19ArrayOverNoneNeedsRoomToo() {
        IndexRanges x = sample();
        for (int array = 2; array < 6; array++) {
            due("array", array, x.array(4));
        }
        dueRefused("one more", x, ROOM, y -> y.array(4));
    }

    private static void promise19ArrayThatIsRefusedTakesNoNumber() {
        IndexRanges x = sample();
        dueThrow("MANY", NegativeArraySizeException.class, () -> x.array(3));
        dueThrow("6561", IllegalArgumentException.class, () -> x.array(6));
        due("none such", UNKNOWN, x.array(8));
        due("the next one", 2, x.array(0));
    }

    private static void promise19ArrayUnknown() {
        dueUnknownRange("array", UNKNOWN, (x, range) -> x.array(range));
    }

    private static void promise19ArrayUnknownComesAheadOfRoom() {
        dueRefused("array(8)", withSixArrays(), UNKNOWN, x -> x.array(8));
        dueRefused("array(-1)", withSixArrays(), UNKNOWN, x -> x.array(-1));
    }

    private static void promise19ArrayRoomComesAheadOfWhatIsThrown() {
        dueRefused("MANY", withSixArrays(), ROOM, x -> x.array(3));
        dueRefused("6561", withSixArrays(), ROOM, x -> x.array(6));
    }

    // ---- promise 20: what it was. UNKNOWN. IndexOutOfBoundsException: it is MISSED. (It may be any number.)

    private static void promise20PutAnswersWhatItWas() {
        IndexRanges x = new IndexRanges();
        x.wholes(0, 0);
        x.array(0);
        due("0 at first", 0, x.put(0, LEAST_INT));
        due("the least int", LEAST_INT, x.put(0, MOST_INT));
        due("the largest int", MOST_INT, x.put(0, UNKNOWN));
        due("a code", UNKNOWN, x.put(0, -1));
        due("-1", -1, x.put(0, 0));
        due("0", 0, x.put(0, 5));
    }

    private static void promise20PutIntoTheFirstAndTheLastCell() {
        IndexRanges x = new IndexRanges();
        x.wholes(1, 400);
        x.array(0);
        x.hold(0, 1);
        due("the first", 0, x.put(0, 11));
        x.hold(0, 400);
        due("the last", 0, x.put(0, 12));
        due("the last again", 12, x.put(0, 13));
        x.hold(0, 1);
        due("the first again", 11, x.put(0, 14));
        x.hold(0, 2);
        due("beside the first", 0, x.at(0));
        x.hold(0, 399);
        due("beside the last", 0, x.at(0));
    }

    private static void promise20PutMissedAheadAndBehind() {
        IndexRanges x = new IndexRanges();
        x.wholes(1, 400);
        x.array(0);
        dueOut("one ahead", () -> x.put(0, 9));
        dueMiss("one ahead", x, 0, 0, 0);
        x.hold(0, 401);
        dueOut("one behind", () -> x.put(0, 9));
        due("MISSED", 2, x.count(2));
        due("the first cell stays", 0, x.sum(0, 0, 1));
        due("the last cell stays", 0, x.sum(0, 0, 400));
    }

    private static void promise20PutMissedLeavesTheCells() {
        IndexRanges x = sample();
        dueOut("put", () -> x.put(1, 9));
        dueMiss("put", x, 1, 1, 1);
        due("the cells stay", 5, x.sum(1, 0, 3));
        due("the other ARRAY stays", 7, x.at(0));
        due("MISSED", 2, x.count(2));
    }

    private static void promise20PutThroughBackIsTheSameElement() {
        IndexRanges x = new IndexRanges();
        x.wholes(1, 3);
        x.back(0);
        x.array(1);
        x.hold(0, 1);
        due("put", 0, x.put(0, 8));
        due("sum", 8, x.sum(0, 0, 1));
        x.hold(0, 3);
        due("the other end", 0, x.at(0));
    }

    private static void promise20PutUnknown() {
        dueUnknownArray("put", UNKNOWN, (x, array) -> x.put(array, 1));
    }

    private static void promise20PutUnknownComesAheadOfTheMiss() {
        IndexRanges x = new IndexRanges();
        x.wholes(1, 2);
        dueRefused("put", x, UNKNOWN, y -> y.put(0, 1));
    }

    // ---- promise 21: the cell of THE HAND. UNKNOWN. IndexOutOfBoundsException: it is MISSED

    private static void promise21AtTheFirstAndTheLastCell() {
        IndexRanges x = new IndexRanges();
        x.steps(400, 1, -1);
        x.array(0);
        x.hold(0, 400);
        x.put(0, 21);
        x.hold(0, 1);
        due("0 at first", 0, x.at(0));
        x.put(0, 22);
        due("the last", 22, x.at(0));
        x.hold(0, 400);
        due("the first", 21, x.at(0));
    }

    private static void promise21AtTheLeastAndTheLargestNumber() {
        IndexRanges x = new IndexRanges();
        x.wholes(0, 0);
        x.array(0);
        for (int v : new int[] {LEAST_INT, MOST_INT, UNKNOWN, -1}) {
            x.put(0, v);
            due("at", v, x.at(0));
        }
    }

    private static void promise21AtMissedAheadAndBehind() {
        IndexRanges x = new IndexRanges();
        x.wholes(1, 3);
        x.array(0);
        dueOut("one ahead", () -> x.at(0));
        dueMiss("one ahead", x, 0, 0, 0);
        x.hold(0, 4);
        dueOut("one behind", () -> x.at(0));
        due("MISSED", 2, x.count(2));
        x.hold(0, 3);
        due("the last", 0, x.at(0));
        due("no more of it", 2, x.count(2));
    }

    private static void promise21AtUnknown() {
        dueUnknownArray("at", UNKNOWN, (x, array) -> x.at(array));
    }

    private static void promise21AtUnknownComesAheadOfTheMiss() {
        IndexRanges x = new IndexRanges();
        x.wholes(1, 2);
        dueRefused("at", x, UNKNOWN, y -> y.at(0));
    }

    // ---- promise 22: UNKNOWN; OUTSIDE: i is not below the WIDTH, or below 0. (-1000000000 less as told.)

    private static void promise22SumOverNumbersBelowTheWidth() {
        IndexRanges x = sample();
        due("NUMBER 0 of WIDTH 2", 5, x.sum(1, 0, 3));
        due("NUMBER 1 of WIDTH 2", 5, x.sum(1, 1, 0));
        for (int i : new int[] {-1, 2, 7, 8, LEAST_INT, MOST_INT}) {
            dueRefused("NUMBER " + i + " of WIDTH 2", sample(), LONG_OUTSIDE, y -> y.sum(1, i, 0));
        }
        due("NUMBER 0 of WIDTH 1", 7, x.sum(0, 0, 3));
        for (int i : new int[] {-1, 1, 8}) {
            dueRefused("NUMBER " + i + " of WIDTH 1", sample(), LONG_OUTSIDE, y -> y.sum(0, i, 3));
        }
    }

    private static void promise22SumOverNumberSevenOfWidthEight() {
        IndexRanges x = new IndexRanges();
        int wide = ofWidth(x, 8);
        x.array(wide);
        holdAll(x, 1, 0, 1, 0, 1, 0, 1, 1);
        x.put(0, 6);
        holdAll(x, 0, 1, 1, 1, 1, 1, 1, 1);
        x.put(0, 30);
        due("NUMBER 7 is 1", 36, x.sum(0, 7, 1));
        due("NUMBER 7 is 0", 0, x.sum(0, 7, 0));
        due("NUMBER 0 is 1", 6, x.sum(0, 0, 1));
        due("NUMBER 0 is 0", 30, x.sum(0, 0, 0));
        dueRefused("NUMBER 8", x, LONG_OUTSIDE, y -> y.sum(0, 8, 1));
    }

    private static void promise22SumOfNoCellIsZero() {
        IndexRanges x = sample();
        for (long v : new long[] {0, 4, -1, MIN, MAX, (1L << 32) + 3}) {
            due("sum(0, 0, " + v + ")", 0, x.sum(0, 0, v));
        }
    }

    private static void promise22SumAboveTheLargestIntAndBelowTheLeast() {
        IndexRanges x = new IndexRanges();
        x.wholes(5, 5);
        x.wholes(1, 4);
        x.pair(0, 1);
        x.array(2);
        x.array(2);
        for (int k = 0; k < 4; k++) {
            x.element(2, k);
            x.put(0, MOST_INT);
            x.put(1, LEAST_INT);
        }
        due("above", 8589934588L, x.sum(0, 0, 5));
        due("below", -8589934592L, x.sum(1, 0, 5));
        due("one of them", MOST_INT, x.sum(0, 1, 4));
        due("one of them", LEAST_INT, x.sum(1, 1, 1));
    }

    private static void promise22SumOfAllFourHundredCells() {
        IndexRanges x = new IndexRanges();
        x.wholes(7, 7);
        x.wholes(1, 400);
        x.pair(0, 1);
        x.array(2);
        for (int k : new int[] {0, 1, 199, 398, 399}) {
            x.element(2, k);
            x.put(0, k + 1);
        }
        due("the first NUMBER", 1 + 2 + 200 + 399 + 400, x.sum(0, 0, 7));
        due("the first cell", 1, x.sum(0, 1, 1));
        due("the last cell", 400, x.sum(0, 1, 400));
        due("behind the last cell", 0, x.sum(0, 1, 401));
    }

    private static void promise22SumOverTheLeastAndTheLargestLong() {
        IndexRanges x = new IndexRanges();
        x.wholes(MAX - 1, MAX);
        x.steps(MIN + 1, MIN, -1);
        x.array(0);
        x.array(1);
        x.hold(0, MAX);
        x.put(0, 31);
        x.hold(0, MIN);
        x.put(1, 32);
        due("the largest", 31, x.sum(0, 0, MAX));
        due("one less", 0, x.sum(0, 0, MAX - 1));
        due("the least", 32, x.sum(1, 0, MIN));
        due("one more", 0, x.sum(1, 0, MIN + 1));
    }

    private static void promise22SumMissesNothingAndLeavesTheHand() {
        IndexRanges x = sample();
        due("sum", 5, x.sum(1, 0, 3));
        due("sum", 0, x.sum(1, 1, 3));
        dueHand("THE HAND stays", x, 3, 3, 9, 9, 9, 9, 9, 8);
        due("MISSED", 1, x.count(2));
        dueMiss("THE MISS stays", x, 1, 1, 1);
    }

    private static void promise22SumUnknown() {
        dueUnknownArray("sum", LONG_UNKNOWN, (x, array) -> x.sum(array, 0, 0));
    }

    private static void promise22SumUnknownComesAheadOfOutside() {
        dueRefused("sum(2, 8, 0)", sample(), LONG_UNKNOWN, x -> x.sum(2, 8, 0));
        dueRefused("sum(-1, -1, 0)", sample(), LONG_UNKNOWN, x -> x.sum(-1, -1, 0));
    }

    // ---- promise 23: the RANGE of an ARRAY. UNKNOWN

    private static void promise23OverTheFirstAndTheLastRange() {
        IndexRanges x = fullSample();
        due("array(39)", 2, x.array(39));
        due("over(2)", 39, x.over(2));
        due("over(0)", 0, x.over(0));
        due("over(1)", 2, x.over(1));
    }

    private static void promise23OverTheRangeItselfNotWhatItIsMadeOf() {
        IndexRanges x = new IndexRanges();
        x.wholes(1, 2);
        x.back(0);
        x.pair(0, 1);
        due("array(2)", 0, x.array(2));
        due("array(1)", 1, x.array(1));
        due("over(0)", 2, x.over(0));
        due("over(1)", 1, x.over(1));
    }

    private static void promise23OverUnknown() {
        dueUnknownArray("over", UNKNOWN, (x, array) -> x.over(array));
    }

    // ---- promise 24: RANGES (what = 0), ARRAYS (1), how often MISSED (2), cells of all ARRAYS (3). OUTSIDE

    private static void promise24CountWhatIsZeroToThree() {
        IndexRanges x = sample();
        due("RANGES", 8, x.count(0));
        due("ARRAYS", 2, x.count(1));
        due("MISSED", 1, x.count(2));
        due("cells", 12, x.count(3));
        for (int what : new int[] {-1, 4, LEAST_INT, MOST_INT}) {
            dueRefused("count(" + what + ")", sample(), OUTSIDE, y -> y.count(what));
        }
    }

    private static void promise24CountOfRangesIsFortyAtMost() {
        IndexRanges x = fullSample();
        due("40 of them", 40, x.count(0));
        due("one more", ROOM, x.wholes(1, 2));
        due("still 40", 40, x.count(0));
    }

    private static void promise24CountOfArraysIsSixAtMost() {
        IndexRanges x = withSixArrays();
        due("6 of them", 6, x.count(1));
        due("one more", ROOM, x.array(0));
        due("still 6", 6, x.count(1));
    }

    private static void promise24CountOfCellsIsTwentyFourHundredAtMost() {
        IndexRanges x = new IndexRanges();
        x.wholes(1, 400);
        for (int array = 0; array < 6; array++) {
            due("cells", 400 * array, x.count(3));
            x.array(0);
        }
        due("all cells", 2400, x.count(3));
    }

    private static void promise24CountOfCellsOfNoneIsZero() {
        IndexRanges x = new IndexRanges();
        x.wholes(1, 0);
        x.wholes(1, 1);
        x.array(0);
        due("none", 0, x.count(3));
        x.array(1);
        due("one", 1, x.count(3));
    }

    private static void promise24CountOfMissesTakesEachCallThatMisses() {
        IndexRanges x = new IndexRanges();
        x.wholes(1, 2);
        x.array(0);
        dueOut("index", () -> x.index(0));
        due("index", 1, x.count(2));
        due("has", 0, x.has(0));
        due("has", 2, x.count(2));
        dueOut("go", () -> x.go(0, 1));
        due("go", 3, x.count(2));
        dueOut("put", () -> x.put(0, 1));
        due("put", 4, x.count(2));
        dueOut("at", () -> x.at(0));
        due("at", 5, x.count(2));
    }

    private static void promise24CountOfMissesIsOneWhereSeveralNumbersAreOut() {
        IndexRanges x = new IndexRanges();
        x.wholes(1, 2);
        x.triple(0, 0, 0);
        due("has", 0, x.has(1));
        due("one MISS", 1, x.count(2));
    }

    private static void promise24CountOfMissesTakesNoOtherCall() {
        IndexRanges x = new IndexRanges();
        x.wholes(1, 2);
        x.wholes(5, 6);
        x.array(0);
        dueOut("element", () -> x.element(0, 2));
        due("within", 0, x.within(0, 1));
        due("sum", 0, x.sum(0, 0, 9));
        dueThrow("hold", ArrayIndexOutOfBoundsException.class, () -> x.hold(8, 1));
        dueThrow("held", ArrayIndexOutOfBoundsException.class, () -> x.held(8));
        x.hold(0, 2);
        dueOut("go to no such place", () -> x.go(0, 1));
        due("unknown", UNKNOWN, x.has(2));
        due("nothing is missed", 0, x.count(2));
    }

    // ---- promise 25: all is as at the beginning: how many RANGES there were

    private static void promise25ClearAnswersHowManyRangesThereWere() {
        due("of a new object", 0, new IndexRanges().clear());
        due("of 8", 8, sample().clear());
        due("of 40", 40, fullSample().clear());
        IndexRanges x = sample();
        x.clear();
        due("twice", 0, x.clear());
    }

    private static void promise25ClearTakesRanges() {
        IndexRanges x = fullSample();
        x.clear();
        due("RANGES", 0, x.count(0));
        due("size(0)", LONG_UNKNOWN, x.size(0));
        due("size(39)", LONG_UNKNOWN, x.size(39));
        due("the first one", 0, x.steps(0, 4, 2));
        due("it is the new one", 3, x.size(0));
        due("the next", LONG_UNKNOWN, x.size(1));
    }

    private static void promise25ClearMakesRoomForForty() {
        IndexRanges x = fullSample();
        x.clear();
        fillWithRangesUpTo(x, 39);
        due("the fortieth", 39, x.back(0));
        due("one more", ROOM, x.back(0));
    }

    private static void promise25ClearTakesArrays() {
        IndexRanges x = withSixArrays();
        x.clear();
        due("ARRAYS", 0, x.count(1));
        due("cells", 0, x.count(3));
        due("over(0)", UNKNOWN, x.over(0));
        due("over(5)", UNKNOWN, x.over(5));
    }

    private static void promise25ClearMakesRoomForSixArrays() {
        IndexRanges x = withSixArrays();
        x.clear();
        x.wholes(1, 2);
        for (int array = 0; array < 6; array++) {
            due("array", array, x.array(0));
        }
        due("one more", ROOM, x.array(0));
    }

    private static void promise25ClearLeavesNoCellBehind() {
        IndexRanges x = new IndexRanges();
        x.wholes(1, 400);
        for (int array = 0; array < 6; array++) {
            x.array(0);
            x.hold(0, 1);
            x.put(array, 5);
            x.hold(0, 400);
            x.put(array, 6);
        }
        x.clear();
        x.wholes(1, 400);
        for (int array = 0; array < 6; array++) {
            x.array(0);
            due("the first cell", 0, x.sum(array, 0, 1));
            due("the last cell", 0, x.sum(array, 0, 400));
        }
    }

    private static void promise25ClearEmptiesTheHand() {
        IndexRanges x = new IndexRanges();
        holdAll(x, 1, 2, 3, 4, 5, 6, 7, 8);
        x.clear();
        dueHand("cleared", x, 0, 0, 0, 0, 0, 0, 0, 0);
    }

    private static void promise25ClearTakesTheMiss() {
        IndexRanges x = sample();
        x.clear();
        due("MISSED", 0, x.count(2));
        for (int what = 0; what < 3; what++) {
            due("miss(" + what + ")", STATE, x.miss(what));
        }
        x.wholes(1, 2);
        due("has(0)", 0, x.has(0));
        due("counted anew", 1, x.count(2));
        dueMiss("a new one", x, 0, 0, 0);
    }

    public static void main(String[] args) {
        runTests(ArrayEdgesTest.class);
    }
}
