/** The edges that the document's terms name, with their parts 1 to 3. */
public final class TermsEdgesTest extends Checks {

    // ---- RANGES 0, 1, .., 40 at most, as they come

    private static void termsRangesAreNumberedFromZeroAsTheyCome() {
        IndexRanges x = new IndexRanges();
        due("the first", 0, x.names(3, 1, 2));
        due("the second", 1, x.wholes(1, 0));
        due("the third", 2, x.pair(0, 0));
        due("the fourth", 3, x.back(2));
        due("the fifth", 4, x.triple(0, 1, 2));
        due("the sixth", 5, x.steps(1, 9, 4));
        due("the seventh", 6, x.signs(3, 4));
    }

    private static void termsRangesFortyAreThereAndNoMore() {
        IndexRanges x = new IndexRanges();
        fillWithRangesUpTo(x, 39);
        due("the fortieth", 39, x.wholes(5, 9));
        due("its size", 5, x.size(39));
        dueRefused("the one behind it", x, ROOM, y -> y.wholes(5, 9));
        due("RANGES", 40, x.count(0));
        due("size(40)", LONG_UNKNOWN, x.size(40));
    }

    private static void termsRangeThatIsRefusedTakesNoNumber() {
        IndexRanges x = new IndexRanges();
        due("signs(-1, 0)", OUTSIDE, x.signs(-1, 0));
        due("back(0)", UNKNOWN, x.back(0));
        due("the first", 0, x.wholes(0, MAX));
        due("back(0)", STATE, x.back(0));
        due("the second", 1, x.wholes(1, 2));
    }

    private static void termsRangesAreLookedAtOnlyWhereTheyAreThere() {
        IndexRanges x = new IndexRanges();
        x.wholes(1, 2);
        due("pair of the next one", UNKNOWN, x.pair(0, 1));
        due("back of itself", UNKNOWN, x.back(1));
        due("pair of what there is", 1, x.pair(0, 0));
        due("pair of that", 2, x.pair(0, 1));
    }

    // ---- THE HAND has NUMBERS 0 to 7, longs, 0 at first

    private static void termsHandHasNumberZeroAndNoneAhead() {
        IndexRanges x = new IndexRanges();
        due("hold(0, 5)", 0, x.hold(0, 5));
        due("held(0)", 5, x.held(0));
        dueThrow("hold(-1, 5)", ArrayIndexOutOfBoundsException.class, () -> x.hold(-1, 5));
        dueThrow("held(-1)", ArrayIndexOutOfBoundsException.class, () -> x.held(-1));
    }

    private static void termsHandHasNumberSevenAndNoneBehind() {
        IndexRanges x = new IndexRanges();
        due("hold(7, 5)", 0, x.hold(7, 5));
        due("held(7)", 5, x.held(7));
        dueThrow("hold(8, 5)", ArrayIndexOutOfBoundsException.class, () -> x.hold(8, 5));
        dueThrow("held(8)", ArrayIndexOutOfBoundsException.class, () -> x.held(8));
    }

    private static void termsHandHoldsTheLeastAndTheLargestLong() {
        IndexRanges x = new IndexRanges();
        for (int k = 0; k < 8; k++) {
            x.hold(k, k % 2 == 0 ? MIN : MAX);
        }
        dueHand("all at once", x, MIN, MAX, MIN, MAX, MIN, MAX, MIN, MAX);
    }

    private static void termsHandIsZeroAtFirst() {
        dueHand("a new object", new IndexRanges(), 0, 0, 0, 0, 0, 0, 0, 0);
    }

    // ---- codes, the first of these that fits

    private static void termsUnknownComesAheadOfOutside() {
        dueRefused("told of a wrong RANGE, wrong what", sample(), UNKNOWN, x -> x.told(8, 4));
        dueRefused("told of a wrong RANGE, wrong what", sample(), UNKNOWN, x -> x.told(-1, -1));
        dueRefused("sum of a wrong ARRAY, wrong NUMBER", sample(), LONG_UNKNOWN, x -> x.sum(2, 8, 0));
        dueRefused("sum of a wrong ARRAY, wrong NUMBER", sample(), LONG_UNKNOWN, x -> x.sum(-1, -1, 0));
    }

    private static void termsUnknownComesAheadOfState() {
        dueRefused("pair of width 8 and none such", sample(), UNKNOWN, x -> x.pair(6, 8));
        dueRefused("pair of none such and width 8", sample(), UNKNOWN, x -> x.pair(8, 6));
        dueRefused("triple, the first none such", sample(), UNKNOWN, x -> x.triple(8, 6, 6));
        dueRefused("triple, the second none such", sample(), UNKNOWN, x -> x.triple(6, 8, 6));
        dueRefused("triple, the third none such", sample(), UNKNOWN, x -> x.triple(6, 6, 8));
    }

    private static void termsUnknownComesAheadOfRoom() {
        dueRefused("back", fullSample(), UNKNOWN, x -> x.back(40));
        dueRefused("pair, the first", fullSample(), UNKNOWN, x -> x.pair(40, 0));
        dueRefused("pair, the second", fullSample(), UNKNOWN, x -> x.pair(0, 40));
        dueRefused("triple, the first", fullSample(), UNKNOWN, x -> x.triple(40, 0, 0));
        dueRefused("triple, the second", fullSample(), UNKNOWN, x -> x.triple(0, 40, 0));
        dueRefused("triple, the third", fullSample(), UNKNOWN, x -> x.triple(0, 0, 40));
        dueRefused("array", withSixArrays(), UNKNOWN, x -> x.array(8));
    }

    private static void termsOutsideComesAheadOfState() {
        dueRefused("miss(3) without a MISS", new IndexRanges(), OUTSIDE, x -> x.miss(3));
        dueRefused("miss(-1) without a MISS", new IndexRanges(), OUTSIDE, x -> x.miss(-1));
    }

    private static void termsOutsideComesAheadOfRoom() {
        dueRefused("signs", fullSample(), OUTSIDE, x -> x.signs(0, 65536));
        dueRefused("names", fullSample(), OUTSIDE, x -> x.names(21, 0, 0));
        dueRefused("steps", fullSample(), OUTSIDE, x -> x.steps(0, 1, 0));
    }

    private static void termsStateComesAheadOfRoom() {
        dueRefused("back of MANY", fullSample(), STATE, x -> x.back(3));
        dueRefused("pair of WIDTH 9", fullSample(), STATE, x -> x.pair(6, 0));
        dueRefused("triple of WIDTH 10", fullSample(), STATE, x -> x.triple(0, 6, 0));
    }

    private static void termsRoomComesWhereNothingElseFits() {
        dueRefused("back", fullSample(), ROOM, x -> x.back(0));
        dueRefused("pair of WIDTH 8", fullSample(), ROOM, x -> x.pair(5, 5));
        dueRefused("triple of WIDTH 8", fullSample(), ROOM, x -> x.triple(5, 2, 2));
        dueRefused("signs", fullSample(), ROOM, x -> x.signs(0, 65535));
        dueRefused("names", fullSample(), ROOM, x -> x.names(20, 0, 19));
        dueRefused("steps", fullSample(), ROOM, x -> x.steps(0, 1, 1000000));
    }

    // ---- what answers a long: MANY as told, codes 1000000000 less

    private static void termsCodesOfLongAnswersAre1000000000Less() {
        dueRefused("size", sample(), -1000000101L, x -> x.size(8));
        dueRefused("index", sample(), -1000000101L, x -> x.index(8));
        dueRefused("go", sample(), -1000000101L, x -> x.go(8, 0));
        dueRefused("go from MANY", sample(), -1000000103L, x -> x.go(3, 0));
        dueRefused("sum", sample(), -1000000101L, x -> x.sum(2, 0, 0));
        dueRefused("sum over NUMBER 1", sample(), -1000000102L, x -> x.sum(0, 1, 0));
    }

    private static void termsCodesOfIntAnswersAreNotLess() {
        dueRefused("has", sample(), -101, x -> x.has(8));
        dueRefused("element", sample(), -101, x -> x.element(8, 0));
        dueRefused("put", sample(), -101, x -> x.put(2, 0));
        dueRefused("at", sample(), -101, x -> x.at(2));
        dueRefused("told", sample(), -102, x -> x.told(0, 4));
        dueRefused("back of MANY", sample(), -103, x -> x.back(3));
        dueRefused("wholes", fullSample(), -104, x -> x.wholes(0, 0));
    }

    private static void termsManyIsMinusOneInLongAnswers() {
        IndexRanges x = sample();
        due("size", -1, x.size(3));
        x.hold(0, MAX);
        due("index", -1, x.index(3));
    }

    private static void termsObjectAnswersFor512Calls() {
        IndexRanges x = new IndexRanges();
        x.wholes(1, 2);
        for (int call = 2; call <= 511; call++) {
            x.has(0);
        }
        due("the 512th call", 510, x.count(2));
    }

    private static void termsObjectIsFilledAndClearedFor512Calls() {
        IndexRanges x = new IndexRanges();
        for (int call = 1; call <= 512; call++) {
            int place = (call - 1) % 41;
            if (place == 40) {
                due("clear", 40, x.clear());
            } else {
                due("triple or wholes", place, place == 0 ? x.wholes(1, 2) : x.triple(0, 0, 0));
            }
        }
    }

    // ---- part 1: SIZE, and MANY if it is above 9223372036854775807

    private static void part1SizeOfWholesFromAboveZeroIsToldUpToTheLargestLong() {
        IndexRanges x = new IndexRanges();
        due("9223372036854775807 of them", MAX, x.size(x.wholes(1, MAX)));
        due("one more", MANY, x.size(x.wholes(0, MAX)));
        due("two more", MANY, x.size(x.wholes(-1, MAX)));
    }

    private static void part1SizeOfWholesFromBelowZeroIsToldUpToTheLargestLong() {
        IndexRanges x = new IndexRanges();
        due("9223372036854775807 of them", MAX, x.size(x.wholes(MIN, -2)));
        due("one more", MANY, x.size(x.wholes(MIN, -1)));
        due("two more", MANY, x.size(x.wholes(MIN, 0)));
    }

    private static void part1SizeOfWholesOverZeroIsToldUpToTheLargestLong() {
        IndexRanges x = new IndexRanges();
        due("9223372036854775807 of them", MAX, x.size(x.wholes(-(1L << 62), (1L << 62) - 2)));
        due("one more", MANY, x.size(x.wholes(-(1L << 62), (1L << 62) - 1)));
    }

    private static void part1SizeOfAllWholesIsMany() {
        IndexRanges x = new IndexRanges();
        due("all", MANY, x.size(x.wholes(MIN, MAX)));
        due("all but the last", MANY, x.size(x.wholes(MIN, MAX - 1)));
        due("all but the first", MANY, x.size(x.wholes(MIN + 1, MAX)));
    }

    private static void part1SizeOfStepsOfOneIsToldUpToTheLargestLong() {
        IndexRanges x = new IndexRanges();
        due("up, 9223372036854775807 of them", MAX, x.size(x.steps(1, MAX, 1)));
        due("up, one more", MANY, x.size(x.steps(0, MAX, 1)));
        due("up, all", MANY, x.size(x.steps(MIN, MAX, 1)));
        due("down, 9223372036854775807 of them", MAX, x.size(x.steps(-2, MIN, -1)));
        due("down, one more", MANY, x.size(x.steps(-1, MIN, -1)));
        due("down, all", MANY, x.size(x.steps(MAX, MIN, -1)));
    }

    private static void part1SizeOfStepsOfTwoIsToldUpToTheLargestLong() {
        IndexRanges x = new IndexRanges();
        due("up, 9223372036854775807 of them", MAX, x.size(x.steps(MIN, MAX - 2, 2)));
        due("up, one more", MANY, x.size(x.steps(MIN, MAX - 1, 2)));
        due("up, to the end", MANY, x.size(x.steps(MIN, MAX, 2)));
        due("down, 9223372036854775807 of them", MAX, x.size(x.steps(MAX, MIN + 2, -2)));
        due("down, one more", MANY, x.size(x.steps(MAX, MIN + 1, -2)));
        due("down, to the end", MANY, x.size(x.steps(MAX, MIN, -2)));
    }

    private static void part1SizeOfStepsOfThreeIsNeverMany() {
        IndexRanges x = new IndexRanges();
        due("up", 6148914691236517206L, x.size(x.steps(MIN, MAX, 3)));
        due("down", 6148914691236517206L, x.size(x.steps(MAX, MIN, -3)));
        due("up, one short", 6148914691236517205L, x.size(x.steps(MIN, MAX - 1, 3)));
        due("down, one short", 6148914691236517205L, x.size(x.steps(MAX, MIN + 1, -3)));
    }

    private static void part1SizeOfTheWidestStepsThroughAll() {
        IndexRanges x = new IndexRanges();
        due("up", 18446744073710L, x.size(x.steps(MIN, MAX, 1000000)));
        due("down", 18446744073710L, x.size(x.steps(MAX, MIN, -1000000)));
    }

    private static void part1SizeOfPairIsToldUpToTheLargestLong() {
        IndexRanges x = new IndexRanges();
        int seven = x.wholes(1, 7);
        int rest = x.wholes(1, MAX / 7);
        int oneMore = x.wholes(0, MAX / 7);
        due("7 times its seventh", MAX, x.size(x.pair(seven, rest)));
        due("the other way", MAX, x.size(x.pair(rest, seven)));
        due("7 times one more", MANY, x.size(x.pair(seven, oneMore)));
        due("the other way", MANY, x.size(x.pair(oneMore, seven)));
    }

    private static void part1SizeOfPairOfTheLargestLongAndOneOrTwo() {
        IndexRanges x = new IndexRanges();
        int largest = x.wholes(1, MAX);
        int one = x.wholes(5, 5);
        int two = x.wholes(5, 6);
        due("by one", MAX, x.size(x.pair(largest, one)));
        due("one by it", MAX, x.size(x.pair(one, largest)));
        due("by two", MANY, x.size(x.pair(largest, two)));
        due("two by it", MANY, x.size(x.pair(two, largest)));
        due("by itself", MANY, x.size(x.pair(largest, largest)));
    }

    private static void part1SizeOfPairOfSquares() {
        IndexRanges x = new IndexRanges();
        int less = x.wholes(1, 3037000499L);
        int more = x.wholes(1, 3037000500L);
        due("the last square", 9223372030926249001L, x.size(x.pair(less, less)));
        due("the first that is too large", MANY, x.size(x.pair(more, more)));
    }

    private static void part1SizeThatWouldWrapToNoneOrLittleIsMany() {
        IndexRanges x = new IndexRanges();
        int power = x.wholes(1, 1L << 32);
        int besidePower = x.wholes(0, 1L << 32);
        int half = x.wholes(1, 1L << 31);
        due("2 to the 63", MANY, x.size(x.pair(half, power)));
        due("2 to the 64, which wraps to 0", MANY, x.size(x.pair(power, power)));
        due("what wraps to 2 to the 32", MANY, x.size(x.pair(power, besidePower)));
        due("2 to the 96", MANY, x.size(x.triple(power, power, power)));
    }

    private static void part1SizeOfTripleIsToldUpToTheLargestLong() {
        IndexRanges x = new IndexRanges();
        int seven = x.wholes(1, 7);
        int rest = x.wholes(1, MAX / 49);
        int oneMore = x.wholes(0, MAX / 49);
        due("the last one large", MAX, x.size(x.triple(seven, seven, rest)));
        due("the middle one large", MAX, x.size(x.triple(seven, rest, seven)));
        due("the first one large", MAX, x.size(x.triple(rest, seven, seven)));
        due("one more, last", MANY, x.size(x.triple(seven, seven, oneMore)));
        due("one more, middle", MANY, x.size(x.triple(seven, oneMore, seven)));
        due("one more, first", MANY, x.size(x.triple(oneMore, seven, seven)));
    }

    private static void part1SizeOfTripleOfThirdPowers() {
        IndexRanges x = new IndexRanges();
        int less = x.wholes(1, 2097151);
        int power = x.wholes(1, 2097152);
        due("2097151 three times", 2097151L * 2097151L * 2097151L, x.size(x.triple(less, less, less)));
        due("just below 2 to the 63", 2097152L * 2097152L * 2097151L, x.size(x.triple(power, power, less)));
        due("2 to the 63", MANY, x.size(x.triple(power, power, power)));
    }

    private static void part1SizeOfManyBesideOthersIsMany() {
        IndexRanges x = new IndexRanges();
        int many = x.wholes(MIN, MAX);
        int one = x.wholes(1, 1);
        due("MANY by MANY", MANY, x.size(x.pair(many, many)));
        due("MANY by one", MANY, x.size(x.pair(many, one)));
        due("one by MANY", MANY, x.size(x.pair(one, many)));
        due("MANY first", MANY, x.size(x.triple(many, one, one)));
        due("MANY in the middle", MANY, x.size(x.triple(one, many, one)));
        due("MANY last", MANY, x.size(x.triple(one, one, many)));
        due("MANY three times", MANY, x.size(x.triple(many, many, many)));
    }

    private static void part1SizeOfManyBesideNoneIsNone() {
        IndexRanges x = new IndexRanges();
        int many = x.wholes(MIN, MAX);
        int none = x.wholes(1, 0);
        due("MANY by none", 0, x.size(x.pair(many, none)));
        due("none by MANY", 0, x.size(x.pair(none, many)));
        due("none first", 0, x.size(x.triple(none, many, many)));
        due("none in the middle", 0, x.size(x.triple(many, none, many)));
        due("none last", 0, x.size(x.triple(many, many, none)));
    }

    private static void part1SizeOfWhatComesToManyBesideNoneIsNone() {
        IndexRanges x = new IndexRanges();
        int power = x.wholes(1, 1L << 32);
        int none = x.steps(1, 2, -1);
        due("none last", 0, x.size(x.triple(power, power, none)));
        due("none first", 0, x.size(x.triple(none, power, power)));
        due("none behind a pair", 0, x.size(x.pair(x.pair(power, power), none)));
    }

    private static void part1SizeOfPairsOfPairsComesToMany() {
        IndexRanges x = new IndexRanges();
        int power = x.wholes(1, 1L << 15);
        int thirty = x.pair(power, power);
        int sixty = x.pair(thirty, thirty);
        due("2 to the 60", 1L << 60, x.size(sixty));
        due("2 to the 62", 1L << 62, x.size(x.pair(sixty, x.wholes(1, 4))));
        due("2 to the 63", MANY, x.size(x.pair(sixty, x.wholes(1, 8))));
    }

    private static void part1WidthOfSinglesIsOne() {
        IndexRanges x = new IndexRanges();
        due("WHOLES", 1, x.told(x.wholes(1, 2), 1));
        due("SIGNS", 1, x.told(x.signs(1, 2), 1));
        due("NAMES", 1, x.told(x.names(3, 1, 2), 1));
        due("STEPS", 1, x.told(x.steps(1, 2, 1), 1));
        due("none", 1, x.told(x.wholes(2, 1), 1));
    }

    // ---- part 1: INDEX, from 0 on; above 9223372036854775807: MANY

    private static void part1IndexOfWholesIsToldUpToTheLargestLong() {
        IndexRanges x = new IndexRanges();
        x.wholes(MIN, MAX);
        long[][] dues = {{MIN, 0}, {MIN + 1, 1}, {-2, MAX - 1}, {-1, MAX}, {0, MANY}, {1, MANY}, {MAX, MANY}};
        dueIndexes(x, dues);
    }

    private static void part1IndexOfStepsUpIsToldUpToTheLargestLong() {
        IndexRanges x = new IndexRanges();
        x.steps(MIN, MAX, 1);
        dueIndexes(x, new long[][] {{MIN, 0}, {-1, MAX}, {0, MANY}, {MAX, MANY}});
    }

    private static void part1IndexOfStepsDownIsToldUpToTheLargestLong() {
        IndexRanges x = new IndexRanges();
        x.steps(MAX, MIN, -1);
        dueIndexes(x, new long[][] {{MAX, 0}, {1, MAX - 1}, {0, MAX}, {-1, MANY}, {MIN, MANY}});
    }

    private static void part1IndexOfStepsOfTwoIsNeverMany() {
        IndexRanges x = new IndexRanges();
        x.steps(MIN, MAX, 2);
        dueIndexes(x, new long[][] {{MIN, 0}, {MIN + 2, 1}, {MAX - 3, MAX - 1}, {MAX - 1, MAX}});
        IndexRanges down = new IndexRanges();
        down.steps(MAX, MIN, -2);
        dueIndexes(down, new long[][] {{MAX, 0}, {MAX - 2, 1}, {MIN + 3, MAX - 1}, {MIN + 1, MAX}});
    }

    private static void dueIndexes(IndexRanges x, long[][] dues) {
        for (long[] d : dues) {
            x.hold(0, d[0]);
            due("index of " + d[0], d[1], x.index(0));
        }
    }

    private static void part1IndexOfPairIsToldUpToTheLargestLong() {
        IndexRanges x = new IndexRanges();
        x.wholes(MIN, MAX);
        x.wholes(0, 1);
        x.pair(0, 1);
        holdAll(x, MIN + (1L << 62) - 1, 0);
        due("one below the largest", MAX - 1, x.index(2));
        x.hold(1, 1);
        due("the largest", MAX, x.index(2));
        holdAll(x, MIN + (1L << 62), 0);
        due("one more", MANY, x.index(2));
        x.hold(1, 1);
        due("two more", MANY, x.index(2));
        holdAll(x, MAX, 1);
        due("the last of all", MANY, x.index(2));
    }

    private static void part1IndexOfPairWhoseLastPartIsMany() {
        IndexRanges x = new IndexRanges();
        x.wholes(0, 1);
        x.wholes(MIN, MAX);
        x.pair(0, 1);
        holdAll(x, 0, MIN);
        due("the first", 0, x.index(2));
        x.hold(1, -1);
        due("the last that can be told", MAX, x.index(2));
        x.hold(1, 0);
        due("the first that can't", MANY, x.index(2));
        holdAll(x, 1, MIN);
        due("behind all of the last PART", MANY, x.index(2));
    }

    private static void part1IndexOfPairThatWouldWrapIsMany() {
        IndexRanges x = new IndexRanges();
        x.wholes(0, 1L << 32);
        x.wholes(1, 1L << 32);
        x.pair(0, 1);
        holdAll(x, (1L << 31) - 1, 1L << 32);
        due("the last that can be told", MAX, x.index(2));
        holdAll(x, 1L << 31, 1);
        due("2 to the 63", MANY, x.index(2));
        holdAll(x, 1L << 32, 1);
        due("2 to the 64, which wraps to 0", MANY, x.index(2));
        holdAll(x, 1L << 32, 6);
        due("what wraps to 5", MANY, x.index(2));
    }

    private static void part1IndexOfTripleIsToldUpToTheLargestLong() {
        IndexRanges x = new IndexRanges();
        x.wholes(0, 2097152);
        x.triple(0, 0, 0);
        long side = 2097153;
        // The largest place there is to tell, written in places of this side.
        long first = MAX / side / side;
        long second = MAX / side % side;
        long third = MAX % side;
        holdAll(x, first, second, third);
        due("the largest", MAX, x.index(1));
        holdAll(x, first, second, third + 1);
        due("one more", MANY, x.index(1));
        holdAll(x, first, second + 1, 0);
        due("the next row", MANY, x.index(1));
        holdAll(x, 2097152, 2097152, 2097152);
        due("the last of all", MANY, x.index(1));
        holdAll(x, 0, 0, 0);
        due("the first of all", 0, x.index(1));
    }

    private static void part1IndexOfPairOfPairsIsManyFromWithin() {
        IndexRanges x = new IndexRanges();
        x.wholes(MIN, MAX);
        x.wholes(3, 3);
        x.pair(0, 1);
        x.pair(1, 2);
        holdAll(x, 3, -1, 3);
        due("the largest", MAX, x.index(3));
        x.hold(1, 0);
        due("one more", MANY, x.index(3));
    }

    // ---- part 1: the order of elements

    private static void part1LastPartOfPairGoesFastest() {
        IndexRanges x = new IndexRanges();
        x.wholes(1, 2);
        x.steps(9, 5, -2);
        x.pair(0, 1);
        dueRows("pair", x, 2, new long[][] {{1, 9}, {1, 7}, {1, 5}, {2, 9}, {2, 7}, {2, 5}});
    }

    private static void part1LastPartOfTripleGoesFastestAndTheFirstSlowest() {
        IndexRanges x = new IndexRanges();
        x.wholes(1, 2);
        x.names(3, 2, 0);
        x.triple(0, 1, 0);
        dueRows("triple", x, 2, new long[][] {{1, 2, 1}, {1, 2, 2}, {1, 0, 1}, {1, 0, 2},
            {2, 2, 1}, {2, 2, 2}, {2, 0, 1}, {2, 0, 2}});
    }

    private static void part1BackOfPairTurnsTheRowNotTheParts() {
        IndexRanges x = new IndexRanges();
        x.wholes(1, 2);
        x.wholes(5, 7);
        x.pair(0, 1);
        x.back(2);
        dueRows("back of pair", x, 3, new long[][] {{2, 7}, {2, 6}, {2, 5}, {1, 7}, {1, 6}, {1, 5}});
    }

    private static void part1PairOfBackTurnsThatPartAlone() {
        IndexRanges x = new IndexRanges();
        x.wholes(1, 2);
        x.back(0);
        x.pair(1, 0);
        dueRows("back in front", x, 2, new long[][] {{2, 1}, {2, 2}, {1, 1}, {1, 2}});
        x.pair(0, 1);
        dueRows("back behind", x, 3, new long[][] {{1, 2}, {1, 1}, {2, 2}, {2, 1}});
    }

    // ---- part 2: THE HAND is looked at by its first NUMBERS

    private static void part2NumbersBehindTheWidthDoNotMatter() {
        IndexRanges x = new IndexRanges();
        x.wholes(0, 1);
        x.pair(0, 0);
        holdAll(x, 1, 9, 9, 9, 9, 9, 9, 9);
        due("WIDTH 1", 1, x.has(0));
        due("its index", 1, x.index(0));
        due("WIDTH 2", 0, x.has(1));
        x.hold(1, 0);
        due("WIDTH 2, the first two held", 1, x.has(1));
        due("its index", 2, x.index(1));
    }

    private static void part2LastNumberWithinTheWidthMatters() {
        for (int width = 1; width <= 8; width++) {
            IndexRanges x = new IndexRanges();
            int range = ofWidth(x, width);
            holdAll(x, 1, 1, 1, 1, 1, 1, 1, 1);
            due("WIDTH " + width, 1, x.has(range));
            due("index of the last", (1 << width) - 1, x.index(range));
            x.hold(width - 1, 2);
            due("WIDTH " + width + ", its last NUMBER out", 0, x.has(range));
            due("the NUMBER", width - 1, x.miss(1));
            x.hold(width - 1, 1);
            if (width < 8) {
                x.hold(width, 2);
                due("WIDTH " + width + ", the NUMBER behind out", 1, x.has(range));
            }
        }
    }

    // ---- part 2: MISSED: the first SINGLE one, its number, which NUMBER, how DEEP

    private static void part2MissIsTheFirstOfSeveralInPair() {
        IndexRanges x = new IndexRanges();
        x.wholes(1, 2);
        x.wholes(5, 6);
        x.pair(0, 1);
        holdAll(x, 9, 9);
        due("both are out", 0, x.has(2));
        dueMiss("both are out", x, 0, 0, 1);
        x.hold(0, 1);
        due("the second is out", 0, x.has(2));
        dueMiss("the second is out", x, 1, 1, 1);
    }

    private static void part2MissIsTheFirstOfSeveralInTriple() {
        IndexRanges x = new IndexRanges();
        x.wholes(1, 2);
        x.wholes(5, 6);
        x.wholes(8, 9);
        x.triple(0, 1, 2);
        holdAll(x, 0, 0, 0);
        due("all are out", 0, x.has(3));
        dueMiss("all are out", x, 0, 0, 1);
        x.hold(0, 1);
        due("two are out", 0, x.has(3));
        dueMiss("two are out", x, 1, 1, 1);
        x.hold(1, 5);
        due("the third is out", 0, x.has(3));
        dueMiss("the third is out", x, 2, 2, 1);
    }

    private static void part2MissGoesThroughThePartsOfThePartFirst() {
        IndexRanges x = new IndexRanges();
        x.wholes(1, 2);
        x.signs(5, 6);
        x.pair(0, 1);
        x.pair(2, 0);
        holdAll(x, 1, 9, 9);
        due("the second and the third are out", 0, x.has(3));
        dueMiss("the second, within", x, 1, 1, 2);
        x.hold(1, 5);
        due("the third is out", 0, x.has(3));
        dueMiss("the third", x, 0, 2, 1);
    }

    private static void part2MissInBackIsAskedFromTheFirstPartOn() {
        IndexRanges x = new IndexRanges();
        x.wholes(1, 2);
        x.wholes(5, 6);
        x.pair(0, 1);
        x.back(2);
        holdAll(x, 9, 9);
        due("both are out", 0, x.has(3));
        dueMiss("both are out", x, 0, 0, 2);
    }

    private static void part2MissOfSameSingleTwiceTellsItsNumberAndWhichNumber() {
        IndexRanges x = new IndexRanges();
        x.wholes(0, 0);
        x.wholes(1, 2);
        x.triple(1, 1, 1);
        holdAll(x, 1, 2, 3);
        due("the third is out", 0, x.has(2));
        dueMiss("the third is out", x, 1, 2, 1);
        x.hold(1, 0);
        due("the second is out", 0, x.has(2));
        dueMiss("the second is out", x, 1, 1, 1);
    }

    private static void part2DepthIsZeroOfTheRangeThatWasAsked() {
        IndexRanges x = new IndexRanges();
        x.wholes(5, 6);
        x.signs(5, 6);
        x.names(9, 5, 6);
        x.steps(5, 6, 1);
        for (int range = 0; range < 4; range++) {
            due("has(" + range + ")", 0, x.has(range));
            dueMiss("has(" + range + ")", x, range, 0, 0);
        }
    }

    private static void part2DepthIsOneMoreForEachBackPairAndTriple() {
        IndexRanges x = new IndexRanges();
        x.wholes(5, 6);
        x.back(0);
        x.pair(1, 0);
        x.triple(0, 2, 0);
        x.back(3);
        holdAll(x, 4, 0, 0, 0);
        due("BACK", 0, x.has(1));
        dueMiss("BACK", x, 0, 0, 1);
        due("PAIR of BACK", 0, x.has(2));
        dueMiss("PAIR of BACK", x, 0, 0, 2);
        holdAll(x, 5, 4);
        due("TRIPLE of PAIR of BACK", 0, x.has(3));
        dueMiss("TRIPLE of PAIR of BACK", x, 0, 1, 3);
        due("BACK of that", 0, x.has(4));
        dueMiss("BACK of that", x, 0, 1, 4);
        holdAll(x, 5, 5, 4);
        due("BACK of that, the other one of PAIR", 0, x.has(4));
        dueMiss("BACK of that, the other one of PAIR", x, 0, 2, 3);
        holdAll(x, 5, 5, 5, 4);
        due("BACK of that, the last", 0, x.has(4));
        dueMiss("BACK of that, the last", x, 0, 3, 2);
    }

    private static void part2DepthGoesToThirtyNine() {
        IndexRanges x = new IndexRanges();
        x.wholes(5, 6);
        for (int range = 0; range < 39; range++) {
            due("back", range + 1, x.back(range));
        }
        due("has(39)", 0, x.has(39));
        dueMiss("has(39)", x, 0, 0, 39);
        due("has(38)", 0, x.has(38));
        dueMiss("has(38)", x, 0, 0, 38);
    }

    private static void part2NoneIsMissedWhateverIsHeld() {
        IndexRanges x = new IndexRanges();
        x.wholes(1, 0);
        x.signs(1, 0);
        x.steps(1, 0, 1);
        x.steps(0, 1, -1);
        for (int range = 0; range < 4; range++) {
            dueHas("none " + range, x, range, 0, 0, 1, -1, MIN, MAX);
            dueMiss("none " + range, x, range, 0, 0);
        }
    }

    private static void part2NoneBehindManyIsMissed() {
        IndexRanges x = new IndexRanges();
        x.wholes(MIN, MAX);
        x.wholes(1, 0);
        x.pair(0, 1);
        x.back(2);
        x.hold(0, MAX);
        due("pair", 0, x.has(2));
        dueMiss("pair", x, 1, 1, 1);
        due("back of it", 0, x.has(3));
        dueMiss("back of it", x, 1, 1, 2);
    }

    private static void part2MissStaysTillTheNextOne() {
        IndexRanges x = new IndexRanges();
        x.wholes(1, 2);
        x.pair(0, 0);
        x.array(0);
        holdAll(x, 1, 3);
        x.has(1);
        due("has(0)", 1, x.has(0));
        due("index(0)", 0, x.index(0));
        due("at(0)", 0, x.at(0));
        due("put(0, 4)", 0, x.put(0, 4));
        due("go(0, 1)", 1, x.go(0, 1));
        due("element(0, 0)", 1, x.element(0, 0));
        due("within(0, 1)", 0, x.within(0, 1));
        due("wholes(1, 9)", 2, x.wholes(1, 9));
        dueMiss("it stays", x, 0, 1, 1);
        x.hold(0, 3);
        x.has(2);
        dueMiss("it stays still", x, 0, 1, 1);
        x.hold(0, 10);
        x.has(2);
        dueMiss("the next one", x, 2, 0, 0);
    }

    // ---- part 2: WITHIN

    private static void part2WithinNeedsTheSameWidth() {
        IndexRanges x = new IndexRanges();
        int single = x.wholes(1, 2);
        int pair = x.pair(single, single);
        int triple = x.triple(single, single, single);
        due("WIDTH 1 and 2", 0, x.within(single, pair));
        due("WIDTH 2 and 1", 0, x.within(pair, single));
        due("WIDTH 2 and 3", 0, x.within(pair, triple));
        due("WIDTH 3 and 2", 0, x.within(triple, pair));
    }

    private static void part2WithinNeedsTheSameWidthOfNoneToo() {
        IndexRanges x = new IndexRanges();
        int none = x.wholes(2, 1);
        int nonePair = x.pair(none, none);
        due("none of WIDTH 1 and 2", 0, x.within(none, nonePair));
        due("none of WIDTH 2 and 1", 0, x.within(nonePair, none));
    }

    private static void part2WithinIsEachElementAndTheLastOneToo() {
        IndexRanges x = new IndexRanges();
        int some = x.wholes(2, 5);
        due("the same ones", 1, x.within(some, x.steps(5, 2, -1)));
        due("one more ahead", 1, x.within(some, x.wholes(1, 5)));
        due("one more behind", 1, x.within(some, x.wholes(2, 6)));
        due("the first is not", 0, x.within(some, x.wholes(3, 5)));
        due("the last is not", 0, x.within(some, x.wholes(2, 4)));
        due("only the first", 0, x.within(some, x.wholes(2, 2)));
        due("one between is not", 0, x.within(some, x.names(6, 4, 2)));
    }

    // ---- part 3: ARRAYS 0 to 5; for each element a whole number, 0 at first; SUM

    private static void part3ArraysAreZeroToFive() {
        IndexRanges x = new IndexRanges();
        x.wholes(1, 2);
        for (int array = 0; array < 6; array++) {
            due("array", array, x.array(0));
        }
        dueRefused("one more", x, ROOM, y -> y.array(0));
        due("over(5)", 0, x.over(5));
        due("over(6)", UNKNOWN, x.over(6));
    }

    private static void part3CellsAreZeroAtFirst() {
        IndexRanges x = new IndexRanges();
        x.wholes(1, 20);
        x.array(0);
        for (int v = 1; v <= 20; v++) {
            x.hold(0, v);
            due("cell of " + v, 0, x.at(0));
        }
    }

    private static void part3EachElementHasItsCell() {
        IndexRanges x = new IndexRanges();
        x.names(5, 3, 1);
        x.wholes(-1, 1);
        x.pair(0, 1);
        x.array(2);
        for (int k = 0; k < 12; k++) {
            x.element(2, k);
            due("put", 0, x.put(0, 100 + k));
        }
        for (int k = 0; k < 12; k++) {
            x.element(2, k);
            due("at", 100 + k, x.at(0));
        }
    }

    private static void part3EachArrayHasItsCells() {
        IndexRanges x = new IndexRanges();
        x.wholes(0, 0);
        for (int array = 0; array < 6; array++) {
            x.array(0);
        }
        for (int array = 0; array < 6; array++) {
            due("put", 0, x.put(array, array + 1));
        }
        for (int array = 0; array < 6; array++) {
            due("at", array + 1, x.at(array));
        }
    }

    private static void part3SumIsOfAllCellsWhoseNumberIsIt() {
        IndexRanges x = new IndexRanges();
        x.wholes(1, 3);
        x.pair(0, 0);
        x.array(1);
        for (int k = 0; k < 9; k++) {
            x.element(1, k);
            x.put(0, 1 << k);
        }
        for (int v = 1; v <= 3; v++) {
            due("NUMBER 0 is " + v, 7L << (3 * (v - 1)), x.sum(0, 0, v));
            due("NUMBER 1 is " + v, 73L << (v - 1), x.sum(0, 1, v));
        }
        due("NUMBER 0 is 0", 0, x.sum(0, 0, 0));
        due("NUMBER 0 is 4", 0, x.sum(0, 0, 4));
        due("NUMBER 1 is 0", 0, x.sum(0, 1, 0));
        due("NUMBER 1 is 4", 0, x.sum(0, 1, 4));
    }

    public static void main(String[] args) {
        runTests(TermsEdgesTest.class);
    }
}
