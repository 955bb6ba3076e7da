/** The edges of promises 9 to 18: what RANGES answer, and THE HAND. */
public final class AskingEdgesTest extends Checks {
    private static final int[] NO_NUMBERS = {-1, 8, LEAST_INT, MOST_INT};

    // ---- promise 9: kinds 0 to 6 (what = 0), WIDTH (1), made of 0 to 3 (2), SINGLE ones (3). UNKNOWN; OUTSIDE

    private static void promise9ToldWhatIsZeroToThree() {
        IndexRanges x = sample();
        due("told(0, 0)", 0, x.told(0, 0));
        due("told(0, 3)", 1, x.told(0, 3));
        for (int what : new int[] {-1, 4, LEAST_INT, MOST_INT}) {
            dueRefused("told(0, " + what + ")", sample(), OUTSIDE, y -> y.told(0, what));
        }
    }

    private static void promise9ToldKindIsZeroToSix() {
        IndexRanges x = oneOfEachKind();
        for (int range = 0; range < 7; range++) {
            due("told(" + range + ", 0)", range, x.told(range, 0));
        }
    }

    private static void promise9ToldKindOfNoneAndOfOne() {
        IndexRanges x = new IndexRanges();
        due("no WHOLES", 0, x.told(x.wholes(1, 0), 0));
        due("no SIGNS", 1, x.told(x.signs(1, 0), 0));
        due("one of NAMES", 2, x.told(x.names(1, 0, 0), 0));
        due("no STEPS", 3, x.told(x.steps(1, 0, 1), 0));
        due("STEPS of 1", 3, x.told(x.steps(1, 5, 1), 0));
        due("BACK of none", 4, x.told(x.back(0), 0));
        due("PAIR of none", 5, x.told(x.pair(0, 0), 0));
        due("TRIPLE of none", 6, x.told(x.triple(0, 0, 0), 0));
    }

    private static void promise9ToldWidthIsOneToEight() {
        for (int width = 1; width <= 8; width++) {
            IndexRanges x = new IndexRanges();
            int range = ofWidth(x, width);
            due("WIDTH " + width, width, x.told(range, 1));
            due("WIDTH of BACK of it", width, x.told(x.back(range), 1));
        }
    }

    private static void promise9ToldMadeOfIsZeroToThree() {
        IndexRanges x = oneOfEachKind();
        int[] dues = {0, 0, 0, 0, 1, 2, 3};
        for (int range = 0; range < 7; range++) {
            due("told(" + range + ", 2)", dues[range], x.told(range, 2));
        }
        due("PAIR of PAIRS", 2, x.told(x.pair(5, 5), 2));
        due("TRIPLE of one thrice", 3, x.told(x.triple(0, 0, 0), 2));
        due("BACK of TRIPLE", 1, x.told(x.back(6), 2));
    }

    private static void promise9ToldSinglesIsItselfIfItIsOne() {
        IndexRanges x = oneOfEachKind();
        for (int range = 0; range < 4; range++) {
            due("told(" + range + ", 3)", 1, x.told(range, 3));
        }
        due("BACK of one", 1, x.told(4, 3));
    }

    private static void promise9ToldSinglesEachAsOftenAsItLiesWithin() {
        IndexRanges x = oneOfEachKind();
        due("PAIR", 2, x.told(5, 3));
        due("PAIR of one twice", 2, x.told(x.pair(0, 0), 3));
        due("TRIPLE of one thrice", 3, x.told(x.triple(0, 0, 0), 3));
        due("TRIPLE with a PAIR", 4, x.told(6, 3));
        due("PAIR of that twice", 8, x.told(x.pair(6, 6), 3));
        due("BACK of that", 8, x.told(x.back(9), 3));
    }

    private static void promise9ToldUnknown() {
        for (int what = 0; what < 4; what++) {
            int asked = what;
            dueUnknownRange("told of what " + what, UNKNOWN, (x, range) -> x.told(range, asked));
        }
    }

    private static void promise9ToldUnknownComesAheadOfOutside() {
        dueRefused("told(8, 4)", sample(), UNKNOWN, x -> x.told(8, 4));
        dueRefused("told(-1, -1)", sample(), UNKNOWN, x -> x.told(-1, -1));
    }

    private static IndexRanges oneOfEachKind() {
        IndexRanges x = new IndexRanges();
        x.wholes(1, 2);
        x.signs(1, 2);
        x.names(3, 1, 2);
        x.steps(1, 2, 1);
        x.back(3);
        x.pair(0, 4);
        x.triple(5, 0, 1);
        return x;
    }

    // ---- promise 10: SIZE; MANY. UNKNOWN (part 1 of the terms has its edges)

    private static void promise10SizeOfNoneIsZero() {
        IndexRanges x = new IndexRanges();
        due("WHOLES", 0, x.size(x.wholes(1, 0)));
        due("SIGNS", 0, x.size(x.signs(1, 0)));
        due("STEPS", 0, x.size(x.steps(1, 0, 7)));
        due("BACK", 0, x.size(x.back(0)));
        due("PAIR", 0, x.size(x.pair(0, 1)));
        due("TRIPLE", 0, x.size(x.triple(0, 1, 2)));
    }

    private static void promise10SizeOfTheLargestLongAndMany() {
        IndexRanges x = new IndexRanges();
        due("one less", MAX - 1, x.size(x.wholes(2, MAX)));
        due("the largest", MAX, x.size(x.wholes(1, MAX)));
        due("one more", -1, x.size(x.wholes(0, MAX)));
    }

    private static void promise10SizeUnknown() {
        dueUnknownRange("size", LONG_UNKNOWN, (x, range) -> x.size(range));
    }

    // ---- promise 11: what it was. ArrayIndexOutOfBoundsException: there is no such NUMBER

    private static void promise11HoldNumbersZeroToSeven() {
        IndexRanges x = new IndexRanges();
        due("NUMBER 0", 0, x.hold(0, 10));
        due("NUMBER 7", 0, x.hold(7, 17));
        dueHand("the others stay", x, 10, 0, 0, 0, 0, 0, 0, 17);
    }

    private static void promise11HoldNoSuchNumber() {
        for (int k : NO_NUMBERS) {
            dueRefusedByThrow("hold(" + k + ", 1)", sample(), ArrayIndexOutOfBoundsException.class, x -> x.hold(k, 1));
        }
    }

    private static void promise11HoldAnswersWhatItWas() {
        IndexRanges x = new IndexRanges();
        due("0 at first", 0, x.hold(3, MIN));
        due("the least long", MIN, x.hold(3, MAX));
        due("the largest long", MAX, x.hold(3, LONG_UNKNOWN));
        due("a code", LONG_UNKNOWN, x.hold(3, -1));
        due("-1", -1, x.hold(3, 0));
    }

    // ---- promise 12: NUMBER k. ArrayIndexOutOfBoundsException: there is no such NUMBER

    private static void promise12HeldNumbersZeroToSeven() {
        IndexRanges x = new IndexRanges();
        holdAll(x, MIN, 1, 2, 3, 4, 5, 6, MAX);
        due("NUMBER 0", MIN, x.held(0));
        due("NUMBER 7", MAX, x.held(7));
        due("again", MAX, x.held(7));
    }

    private static void promise12HeldNoSuchNumber() {
        for (int k : NO_NUMBERS) {
            dueRefusedByThrow("held(" + k + ")", sample(), ArrayIndexOutOfBoundsException.class, x -> x.held(k));
        }
    }

    // ---- promise 13: INDEX; MANY. UNKNOWN. IndexOutOfBoundsException: it is MISSED

    private static void promise13IndexOfTheFirstAndTheLast() {
        IndexRanges x = new IndexRanges();
        x.wholes(5, 7);
        x.hold(0, 5);
        due("the first", 0, x.index(0));
        x.hold(0, 7);
        due("the last", 2, x.index(0));
        due("nothing is missed", 0, x.count(2));
    }

    private static void promise13IndexMissedAheadAndBehind() {
        IndexRanges x = new IndexRanges();
        x.wholes(5, 7);
        x.hold(0, 4);
        dueOut("one ahead", () -> x.index(0));
        due("MISSED", 1, x.count(2));
        x.hold(0, 8);
        dueOut("one behind", () -> x.index(0));
        due("MISSED", 2, x.count(2));
        dueMiss("index", x, 0, 0, 0);
    }

    private static void promise13IndexInNoneIsMissed() {
        IndexRanges x = new IndexRanges();
        x.wholes(1, 0);
        x.back(0);
        dueOut("none", () -> x.index(0));
        dueMiss("none", x, 0, 0, 0);
        dueOut("back of none", () -> x.index(1));
        dueMiss("back of none", x, 0, 0, 1);
    }

    private static void promise13IndexMissLeavesTheRestAlone() {
        IndexRanges x = sample();
        dueOut("index", () -> x.index(2));
        dueHand("THE HAND stays", x, 3, 3, 9, 9, 9, 9, 9, 8);
        due("RANGES", 8, x.count(0));
        due("MISSED", 2, x.count(2));
    }

    private static void promise13IndexManyIsNotMissed() {
        IndexRanges x = new IndexRanges();
        x.wholes(MIN, MAX);
        x.hold(0, -1);
        due("the largest", MAX, x.index(0));
        x.hold(0, 0);
        due("MANY", MANY, x.index(0));
        due("nothing is missed", 0, x.count(2));
        due("nothing is missed", STATE, x.miss(0));
    }

    private static void promise13IndexUnknown() {
        dueUnknownRange("index", LONG_UNKNOWN, (x, range) -> x.index(range));
    }

    // ---- promise 14: 1, 0 (it is MISSED then, too). UNKNOWN

    private static void promise14HasTheEndsAndNoneBeside() {
        IndexRanges x = new IndexRanges();
        x.wholes(5, 7);
        dueHas("the ends", x, 0, 1, 5, 7);
        due("nothing is missed", 0, x.count(2));
        dueHas("beside them", x, 0, 0, 4, 8);
        due("MISSED each time", 2, x.count(2));
    }

    private static void promise14HasNotIsAMissToo() {
        IndexRanges x = new IndexRanges();
        x.wholes(5, 7);
        x.pair(0, 0);
        holdAll(x, 5, 8);
        due("has(1)", 0, x.has(1));
        dueMiss("has(1)", x, 0, 1, 1);
        due("MISSED", 1, x.count(2));
    }

    private static void promise14HasWhatIsOfAnIndexThatIsMany() {
        IndexRanges x = new IndexRanges();
        x.wholes(MIN, MAX);
        x.pair(0, 0);
        holdAll(x, MAX, MAX);
        due("has(0)", 1, x.has(0));
        due("has(1)", 1, x.has(1));
        due("nothing is missed", 0, x.count(2));
    }

    private static void promise14HasUnknown() {
        dueUnknownRange("has", UNKNOWN, (x, range) -> x.has(range));
    }

    // ---- promise 15: NUMBERS behind it stay. UNKNOWN. IndexOutOfBoundsException: there is none (THE MISS stays)

    private static void promise15ElementOfTheFirstAndTheLastIndex() {
        IndexRanges x = new IndexRanges();
        x.wholes(5, 7);
        due("the first", 1, x.element(0, 0));
        due("the first", 5, x.held(0));
        due("the last", 1, x.element(0, 2));
        due("the last", 7, x.held(0));
    }

    private static void promise15ElementAheadAndBehindIsNone() {
        for (long k : new long[] {-1, 3, MIN, MAX}) {
            dueRefusedByThrow("element(0, " + k + ")", sample(), IndexOutOfBoundsException.class, x -> x.element(0, k));
        }
        for (long k : new long[] {-1, 9, MIN, MAX}) {
            dueRefusedByThrow("element(2, " + k + ")", sample(), IndexOutOfBoundsException.class, x -> x.element(2, k));
            dueRefusedByThrow("element(7, " + k + ")", sample(), IndexOutOfBoundsException.class, x -> x.element(7, k));
        }
    }

    private static void promise15ElementOfNoneIsNone() {
        for (long k : new long[] {-1, 0, 1, MAX}) {
            dueRefusedByThrow("element(4, " + k + ")", sample(), IndexOutOfBoundsException.class, x -> x.element(4, k));
        }
    }

    private static void promise15ElementOfNoneBesideManyIsNone() {
        IndexRanges x = new IndexRanges();
        x.wholes(MIN, MAX);
        x.wholes(1, 0);
        x.pair(0, 1);
        x.pair(1, 0);
        dueRefusedByThrow("none behind", x, IndexOutOfBoundsException.class, y -> y.element(2, 0));
        dueRefusedByThrow("none in front", x, IndexOutOfBoundsException.class, y -> y.element(3, 0));
    }

    private static void promise15ElementOfManyUpToTheLargestLong() {
        IndexRanges x = new IndexRanges();
        x.wholes(MIN, MAX);
        due("element(0, MAX)", 1, x.element(0, MAX));
        due("it", -1, x.held(0));
        due("element(0, MAX - 1)", 1, x.element(0, MAX - 1));
        due("it", -2, x.held(0));
        due("element(0, 0)", 1, x.element(0, 0));
        due("it", MIN, x.held(0));
        dueOut("element(0, -1)", () -> x.element(0, -1));
        dueOut("element(0, MIN)", () -> x.element(0, MIN));
        due("THE HAND stays", MIN, x.held(0));
    }

    private static void promise15ElementOfTheLargestSize() {
        IndexRanges x = new IndexRanges();
        x.wholes(1, MAX);
        due("the last", 1, x.element(0, MAX - 1));
        due("the last", MAX, x.held(0));
        dueRefusedByThrow("one behind", x, IndexOutOfBoundsException.class, y -> y.element(0, MAX));
    }

    private static void promise15ElementOfPairOfMany() {
        IndexRanges x = new IndexRanges();
        x.wholes(1, 2);
        x.wholes(MIN, MAX);
        x.pair(0, 1);
        x.pair(1, 0);
        due("element(2, MAX)", 2, x.element(2, MAX));
        dueHand("MANY behind", x, 1, -1);
        due("element(3, MAX)", 2, x.element(3, MAX));
        dueHand("MANY in front", x, MIN + MAX / 2, 2);
        due("index", MAX, x.index(3));
    }

    private static void promise15ElementStepsDownToTheEnds() {
        IndexRanges x = new IndexRanges();
        x.steps(MAX, MIN, -2);
        due("element(0, MAX)", 1, x.element(0, MAX));
        due("it", MIN + 1, x.held(0));
        due("element(0, 0)", 1, x.element(0, 0));
        due("it", MAX, x.held(0));
    }

    private static void promise15ElementOfNamesGoesRound() {
        IndexRanges x = new IndexRanges();
        x.names(20, 19, 18);
        due("the first", 1, x.element(0, 0));
        due("the first", 19, x.held(0));
        due("the next", 1, x.element(0, 1));
        due("the next", 0, x.held(0));
        due("the last", 1, x.element(0, 19));
        due("the last", 18, x.held(0));
        dueOut("once round", () -> x.element(0, 20));
    }

    private static void promise15ElementLeavesNumbersBehindItAlone() {
        for (int width = 1; width <= 8; width++) {
            IndexRanges x = new IndexRanges();
            int range = ofWidth(x, width);
            holdAll(x, 50, 51, 52, 53, 54, 55, 56, 57);
            due("WIDTH", width, x.element(range, (1 << width) - 1));
            for (int k = 0; k < 8; k++) {
                due("WIDTH " + width + ", NUMBER " + k, k < width ? 1 : 50 + k, x.held(k));
            }
        }
    }

    private static void promise15ElementThatThereIsNotLeavesTheMiss() {
        IndexRanges x = new IndexRanges();
        x.wholes(5, 7);
        dueOut("element(0, 3)", () -> x.element(0, 3));
        due("no MISS by it", STATE, x.miss(0));
        due("nothing is missed", 0, x.count(2));
        x.pair(0, 0);
        x.hold(0, 5);
        x.has(1);
        dueOut("element(0, -1)", () -> x.element(0, -1));
        dueMiss("THE MISS stays", x, 0, 1, 1);
    }

    private static void promise15ElementUnknown() {
        dueUnknownRange("element", UNKNOWN, (x, range) -> x.element(range, 0));
    }

    private static void promise15ElementUnknownComesAheadOfNoSuchIndex() {
        dueRefused("element(8, -1)", sample(), UNKNOWN, x -> x.element(8, -1));
        dueRefused("element(-1, MAX)", sample(), UNKNOWN, x -> x.element(-1, MAX));
    }

    // ---- promise 16: UNKNOWN; STATE: INDEX is MANY. IndexOutOfBoundsException: MISSED, or no such place

    private static IndexRanges onFiveToSeven(long held) {
        IndexRanges x = new IndexRanges();
        x.wholes(5, 7);
        x.hold(0, held);
        return x;
    }

    private static void promise16GoToTheLastAndNoFarther() {
        IndexRanges x = onFiveToSeven(6);
        due("to the last", 2, x.go(0, 1));
        due("the last", 7, x.held(0));
        dueRefusedByThrow("one farther", x, IndexOutOfBoundsException.class, y -> y.go(0, 1));
        dueRefusedByThrow("far away", x, IndexOutOfBoundsException.class, y -> y.go(0, MAX));
    }

    private static void promise16GoToTheFirstAndNoFarther() {
        IndexRanges x = onFiveToSeven(6);
        due("to the first", 0, x.go(0, -1));
        due("the first", 5, x.held(0));
        dueRefusedByThrow("one farther", x, IndexOutOfBoundsException.class, y -> y.go(0, -1));
        dueRefusedByThrow("far away", x, IndexOutOfBoundsException.class, y -> y.go(0, MIN));
    }

    private static void promise16GoNowhere() {
        IndexRanges x = onFiveToSeven(7);
        due("go(0, 0)", 2, x.go(0, 0));
        due("THE HAND", 7, x.held(0));
    }

    private static void promise16GoFromEndToEnd() {
        IndexRanges x = onFiveToSeven(5);
        due("to the last", 2, x.go(0, 2));
        due("the last", 7, x.held(0));
        due("to the first", 0, x.go(0, -2));
        due("the first", 5, x.held(0));
    }

    private static void promise16GoFarFromTheLastDoesNotWrap() {
        IndexRanges x = onFiveToSeven(7);
        for (long by : new long[] {MAX, MAX - 1, MAX - 2, MIN, MIN + 1, MIN + 2}) {
            dueRefusedByThrow("go(0, " + by + ")", x, IndexOutOfBoundsException.class, y -> y.go(0, by));
        }
    }

    private static void promise16GoInManyUpToTheLargestLong() {
        IndexRanges x = new IndexRanges();
        x.wholes(MIN, MAX);
        x.hold(0, MIN);
        due("all the way", MAX, x.go(0, MAX));
        due("THE HAND", -1, x.held(0));
        due("nowhere", MAX, x.go(0, 0));
        dueRefusedByThrow("one farther", x, IndexOutOfBoundsException.class, y -> y.go(0, 1));
        dueRefusedByThrow("far away", x, IndexOutOfBoundsException.class, y -> y.go(0, MAX));
        due("all the way back", 0, x.go(0, -MAX));
        due("THE HAND", MIN, x.held(0));
        dueRefusedByThrow("one farther back", x, IndexOutOfBoundsException.class, y -> y.go(0, -1));
        x.hold(0, MIN + 1);
        dueRefusedByThrow("from 1 by the largest", x, IndexOutOfBoundsException.class, y -> y.go(0, MAX));
        due("from 1 by one less", MAX, x.go(0, MAX - 1));
        dueRefusedByThrow("from the largest by the least", x, IndexOutOfBoundsException.class, y -> y.go(0, MIN));
    }

    private static void promise16GoFromManyIsState() {
        IndexRanges x = new IndexRanges();
        x.wholes(MIN, MAX);
        x.hold(0, -1);
        due("the last that can be told", MAX, x.go(0, 0));
        x.hold(0, 0);
        for (long by : new long[] {0, 1, -1, MIN, MAX}) {
            dueRefused("go(0, " + by + ")", x, LONG_STATE, y -> y.go(0, by));
        }
        x.hold(0, MAX);
        dueRefused("from the last one", x, LONG_STATE, y -> y.go(0, -1));
    }

    private static void promise16GoFromManyInPairIsState() {
        IndexRanges x = new IndexRanges();
        x.wholes(MIN, MAX);
        x.wholes(1, 2);
        x.pair(1, 0);
        holdAll(x, 1, -1);
        due("the last that can be told", MAX - 1, x.go(2, -1));
        holdAll(x, 2, MIN);
        dueRefused("behind all of MANY", x, LONG_STATE, y -> y.go(2, -1));
    }

    private static void promise16GoFromWhatIsMissed() {
        IndexRanges x = onFiveToSeven(8);
        dueOut("one behind", () -> x.go(0, -1));
        dueMiss("go", x, 0, 0, 0);
        due("MISSED", 1, x.count(2));
        due("THE HAND stays", 8, x.held(0));
        x.hold(0, 4);
        dueOut("one ahead", () -> x.go(0, 1));
        due("MISSED", 2, x.count(2));
        due("THE HAND stays", 4, x.held(0));
    }

    private static void promise16GoFromWhatIsMissedInMany() {
        IndexRanges x = new IndexRanges();
        x.steps(MIN, MAX, 2);
        x.hold(0, 1);
        for (long by : new long[] {0, 1, 2, -1, MAX, MAX - 1, MIN, MIN + 1, MIN + 2}) {
            dueOut("go(0, " + by + ")", () -> x.go(0, by));
        }
        due("MISSED", 9, x.count(2));
        due("THE HAND stays", 1, x.held(0));
    }

    private static void promise16GoInNoneIsMissed() {
        IndexRanges x = new IndexRanges();
        x.wholes(1, 0);
        for (long by : new long[] {0, 1, -1, MIN, MAX}) {
            dueOut("go(0, " + by + ")", () -> x.go(0, by));
        }
        due("MISSED", 5, x.count(2));
    }

    private static void promise16GoToNoSuchPlaceIsNoMiss() {
        IndexRanges x = onFiveToSeven(7);
        dueOut("one farther", () -> x.go(0, 1));
        due("nothing is missed", 0, x.count(2));
        due("nothing is missed", STATE, x.miss(0));
    }

    private static void promise16GoLeavesNumbersBehindAlone() {
        IndexRanges x = new IndexRanges();
        x.wholes(0, 1);
        x.pair(0, 0);
        holdAll(x, 0, 1, 52, 53, 54, 55, 56, 57);
        due("go(1, 1)", 2, x.go(1, 1));
        dueHand("go", x, 1, 0, 52, 53, 54, 55, 56, 57);
    }

    private static void promise16GoInNamesGoesRoundOnce() {
        IndexRanges x = new IndexRanges();
        x.names(7, 5, 1);
        x.hold(0, 6);
        due("over the last name", 2, x.go(0, 1));
        due("it", 0, x.held(0));
        due("to the last one", 3, x.go(0, 1));
        due("it", 1, x.held(0));
        dueOut("into the gap", () -> x.go(0, 1));
        due("back to the first", 0, x.go(0, -3));
        due("it", 5, x.held(0));
        dueOut("into the gap", () -> x.go(0, -1));
    }

    private static void promise16GoInBack() {
        IndexRanges x = onFiveToSeven(7);
        x.back(0);
        due("farther is less", 1, x.go(1, 1));
        due("it", 6, x.held(0));
        due("to the last", 2, x.go(1, 1));
        due("it", 5, x.held(0));
        dueOut("one farther", () -> x.go(1, 1));
    }

    private static void promise16GoUnknown() {
        dueUnknownRange("go", LONG_UNKNOWN, (x, range) -> x.go(range, 0));
    }

    private static void promise16GoUnknownComesAheadOfAll() {
        IndexRanges x = new IndexRanges();
        x.wholes(MIN, MAX);
        x.hold(0, 0);
        dueRefused("go(1, MIN)", x, LONG_UNKNOWN, y -> y.go(1, MIN));
        dueRefused("go(-1, MAX)", x, LONG_UNKNOWN, y -> y.go(-1, MAX));
    }

    // ---- promise 17: what is 0 to 2. STATE: there was none. OUTSIDE (ahead)

    private static void promise17MissWhatIsZeroToTwo() {
        IndexRanges x = sample();
        due("miss(0)", 1, x.miss(0));
        due("miss(1)", 1, x.miss(1));
        due("miss(2)", 1, x.miss(2));
        for (int what : new int[] {-1, 3, LEAST_INT, MOST_INT}) {
            dueRefused("miss(" + what + ")", sample(), OUTSIDE, y -> y.miss(what));
        }
    }

    private static void promise17MissWithoutOneIsState() {
        for (int what = 0; what < 3; what++) {
            int asked = what;
            dueRefused("miss(" + what + ")", new IndexRanges(), STATE, x -> x.miss(asked));
        }
    }

    private static void promise17MissOutsideIsAheadOfState() {
        for (int what : new int[] {-1, 3, LEAST_INT, MOST_INT}) {
            dueRefused("miss(" + what + ")", new IndexRanges(), OUTSIDE, x -> x.miss(what));
        }
    }

    private static void promise17MissOfRangeZeroNumberZeroDepthZeroIsOne() {
        IndexRanges x = new IndexRanges();
        x.wholes(1, 2);
        due("has(0)", 0, x.has(0));
        dueMiss("all of it 0", x, 0, 0, 0);
    }

    private static void promise17MissOfRangeThirtyEightAndNumberSeven() {
        IndexRanges x = new IndexRanges();
        int wide = ofWidth(x, 7);
        fillWithRangesUpTo(x, 38);
        due("the last SINGLE one", 38, x.wholes(5, 6));
        due("the last one", 39, x.pair(wide, 38));
        due("has(39)", 0, x.has(39));
        dueMiss("has(39)", x, 38, 7, 1);
    }

    private static void promise17MissIsMadeByIndexHasGoPutAndAt() {
        IndexRanges x = new IndexRanges();
        x.wholes(1, 2);
        x.names(9, 1, 2);
        x.pair(0, 1);
        x.array(2);
        x.array(1);
        holdAll(x, 3, 1);
        dueOut("index", () -> x.index(0));
        dueMiss("index", x, 0, 0, 0);
        due("has", 0, x.has(2));
        dueMiss("has", x, 0, 0, 1);
        dueOut("go", () -> x.go(1, 0));
        dueMiss("go", x, 1, 0, 0);
        dueOut("put", () -> x.put(0, 5));
        dueMiss("put", x, 0, 0, 1);
        dueOut("at", () -> x.at(1));
        dueMiss("at", x, 1, 0, 0);
    }

    // ---- promise 18: the same WIDTH, and each element of the one is one of the other. UNKNOWN

    private static void dueWithin(IndexRanges x, int want, int[][] pairs) {
        for (int[] p : pairs) {
            due("within(" + p[0] + ", " + p[1] + ")", want, x.within(p[0], p[1]));
        }
    }

    private static void promise18WithinItself() {
        IndexRanges x = oneOfEachKind();
        x.wholes(1, 0);
        x.wholes(MIN, MAX);
        for (int range = 0; range < 9; range++) {
            due("within(" + range + ", " + range + ")", 1, x.within(range, range));
        }
    }

    private static void promise18WithinNoneLiesInAllOfItsWidth() {
        IndexRanges x = new IndexRanges();
        int none = x.wholes(9, 8);
        int[] singles = {x.wholes(1, 2), x.signs(1, 2), x.names(3, 1, 2), x.steps(1, 2, 1), x.wholes(MIN, MAX), x.signs(2, 1),
            x.back(none)};
        for (int range : singles) {
            due("none in " + range, 1, x.within(none, range));
        }
        int nonePair = x.pair(singles[4], none);
        due("none of WIDTH 2", 1, x.within(nonePair, x.pair(singles[0], singles[0])));
        due("none of WIDTH 2 in another", 1, x.within(nonePair, x.pair(none, singles[0])));
    }

    private static void promise18WithinNoneLiesNothingButNone() {
        IndexRanges x = new IndexRanges();
        int none = x.wholes(9, 8);
        int one = x.wholes(9, 9);
        due("one in none", 0, x.within(one, none));
        due("none in one", 1, x.within(none, one));
        due("NAMES in none", 0, x.within(x.names(1, 0, 0), none));
        due("MANY in none", 0, x.within(x.wholes(MIN, MAX), none));
        due("a pair in none", 0, x.within(x.pair(one, one), x.pair(one, none)));
        due("a pair in none", 0, x.within(x.pair(one, one), x.pair(none, one)));
    }

    private static void promise18WithinAtTheEndsOfLongs() {
        IndexRanges x = new IndexRanges();
        int all = x.wholes(MIN, MAX);
        int butLast = x.wholes(MIN, MAX - 1);
        int butFirst = x.wholes(MIN + 1, MAX);
        int allDown = x.steps(MAX, MIN, -1);
        dueWithin(x, 1, new int[][] {{butLast, all}, {butFirst, all}, {allDown, all}, {all, allDown}});
        dueWithin(x, 0, new int[][] {{all, butLast}, {all, butFirst}, {butLast, butFirst}, {butFirst, butLast},
            {allDown, butLast}});
    }

    private static void promise18WithinStepsOfManifoldWidth() {
        IndexRanges x = new IndexRanges();
        int threes = x.steps(-12, 12, 3);
        int sixes = x.steps(12, -12, -6);
        int shifted = x.steps(-11, 12, 3);
        int fours = x.steps(-12, 12, 4);
        dueWithin(x, 1, new int[][] {{sixes, threes}, {x.steps(-6, 6, 12), sixes}, {x.steps(4, -8, -12), fours}});
        dueWithin(x, 0, new int[][] {{threes, sixes}, {threes, shifted}, {sixes, shifted}, {fours, threes}, {threes, fours}});
    }

    private static void promise18WithinStepsThroughAll() {
        IndexRanges x = new IndexRanges();
        int even = x.steps(MIN, MAX, 2);
        int odd = x.steps(MAX, MIN, -2);
        int fours = x.steps(MAX - 3, MIN, -4);
        dueWithin(x, 1, new int[][] {{fours, even}, {even, even}, {odd, odd}});
        dueWithin(x, 0, new int[][] {{even, odd}, {odd, even}, {even, fours}, {fours, odd}});
    }

    private static void promise18WithinStepsOfOneElementWhateverTheStep() {
        IndexRanges x = new IndexRanges();
        int one = x.steps(6, 8, 5);
        int two = x.steps(6, 11, 5);
        int threes = x.steps(0, 12, 3);
        due("one element", 1, x.within(one, threes));
        due("two of them", 0, x.within(two, threes));
        due("one element, as it is a one", 1, x.within(one, x.wholes(6, 6)));
        due("a one in it", 1, x.within(x.wholes(6, 6), one));
        due("its neighbour", 0, x.within(x.wholes(7, 7), one));
        due("its end", 0, x.within(x.wholes(8, 8), one));
    }

    private static void promise18WithinNamesThatGoRound() {
        IndexRanges x = new IndexRanges();
        int round = x.names(7, 5, 1);
        int sixAndNone = x.steps(0, 6, 6);
        dueWithin(x, 1, new int[][] {{round, x.wholes(0, 6)}, {x.wholes(0, 1), round}, {x.signs(5, 6), round},
            {sixAndNone, round}, {x.names(7, 6, 0), sixAndNone}, {x.names(20, 5, 6), round}, {round, x.names(7, 4, 3)}});
        dueWithin(x, 0, new int[][] {{x.wholes(0, 2), round}, {x.wholes(4, 6), round}, {x.wholes(0, 6), round},
            {round, x.wholes(0, 5)}, {round, x.wholes(1, 6)}, {round, x.names(7, 6, 1)}, {round, x.names(7, 5, 0)},
            {x.wholes(-1, 0), round}, {x.wholes(6, 7), round}, {round, sixAndNone}});
    }

    private static void promise18WithinAllTwentyNames() {
        IndexRanges x = new IndexRanges();
        int twenty = x.names(20, 10, 9);
        dueWithin(x, 1, new int[][] {{x.wholes(0, 19), twenty}, {twenty, x.wholes(0, 19)}, {twenty, x.signs(0, 20)},
            {x.steps(19, 0, -1), twenty}});
        dueWithin(x, 0, new int[][] {{x.wholes(0, 20), twenty}, {x.wholes(-1, 19), twenty}, {twenty, x.wholes(1, 19)},
            {twenty, x.wholes(0, 18)}, {x.wholes(MIN, MAX), twenty}, {x.signs(0, 65535), twenty}});
    }

    private static void promise18WithinPartByPart() {
        IndexRanges x = new IndexRanges();
        int less = x.wholes(2, 3);
        int more = x.wholes(1, 4);
        int inner = x.pair(less, less);
        dueWithin(x, 1, new int[][] {{inner, x.pair(more, more)}, {inner, x.pair(less, more)}, {inner, x.pair(more, less)}});
        dueWithin(x, 0, new int[][] {{x.pair(more, less), inner}, {x.pair(less, more), inner},
            {x.pair(more, less), x.pair(less, more)}});
        due("the third of a triple", 0, x.within(x.triple(less, less, more), x.triple(less, less, less)));
    }

    private static void promise18WithinWhateverTheNestingAndOrder() {
        IndexRanges x = new IndexRanges();
        int some = x.wholes(2, 3);
        int pair = x.pair(some, some);
        int left = x.pair(pair, some);
        int right = x.pair(some, x.back(pair));
        int triple = x.triple(some, some, some);
        dueWithin(x, 1, new int[][] {{left, right}, {right, left}, {triple, left}, {right, triple}, {x.back(triple), triple},
            {triple, x.back(triple)}});
    }

    private static void promise18WithinOfManyByMany() {
        IndexRanges x = new IndexRanges();
        int all = x.wholes(MIN, MAX);
        int butLast = x.wholes(MIN, MAX - 1);
        int allPairs = x.pair(all, all);
        due("in all pairs", 1, x.within(x.pair(butLast, all), allPairs));
        due("all pairs", 0, x.within(allPairs, x.pair(butLast, all)));
        due("all pairs", 0, x.within(allPairs, x.pair(all, butLast)));
    }

    private static void promise18WithinMissesNothing() {
        IndexRanges x = sample();
        due("within(0, 1)", 0, x.within(0, 1));
        due("within(1, 0)", 0, x.within(1, 0));
        due("MISSED", 1, x.count(2));
        dueMiss("it stays", x, 1, 1, 1);
        dueHand("THE HAND stays", x, 3, 3, 9, 9, 9, 9, 9, 8);
    }

    private static void promise18WithinUnknown() {
        dueUnknownRange("within, the one", UNKNOWN, (x, range) -> x.within(range, 0));
        dueUnknownRange("within, the other", UNKNOWN, (x, range) -> x.within(0, range));
        dueUnknownRange("within, both", UNKNOWN, (x, range) -> x.within(range, range));
    }

    public static void main(String[] args) {
        runTests(AskingEdgesTest.class);
    }
}
