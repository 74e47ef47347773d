/**
 * The document sentence by sentence: each one that names a boundary case (too small, too large,
 * empty, full, a wrap-around, a refused call) has a test of its own here, told by its words.
 */
public final class EdgesTest {
    private static final int INT = 0;
    private static final int LONG = 1;
    private static final int FLOAT = 2;
    private static final int DOUBLE = 3;

    private static final int GREATER = 0;
    private static final int LESS = 1;
    private static final int SIGNED = 2;
    private static final int SIZE = 3;

    private static final int DOWN = 1;
    private static final int UP = 2;
    private static final int NEAREST = 3;
    private static final int SIGN = 4;

    private static final int DIAL = 1;
    private static final int WAY = 2;
    private static final int NUMBER = 3;
    private static final int ENDS = 4;
    private static final int FULL = 5;
    private static final int UNLIKE = 6;
    private static final int STEP = 7;

    private static final long LEAST_INT = -2147483648L;
    private static final long LAST_INT = 2147483647L;
    private static final long F_INFINITY = f(Float.POSITIVE_INFINITY);
    private static final long F_NEGATIVE = f(Float.NEGATIVE_INFINITY);
    private static final long D_INFINITY = d(Double.POSITIVE_INFINITY);
    private static final long D_NEGATIVE = d(Double.NEGATIVE_INFINITY);

    private static final long[] NO_INTS = {LAST_INT + 1, LEAST_INT - 1, 1L << 32, (1L << 32) + 5,
        -(1L << 32), 0xffffffffL, Long.MAX_VALUE, Long.MIN_VALUE, Long.MIN_VALUE + 1};
    private static final long[] FLOAT_NANS = {0x7f800001L, 0x7fc00000L, 0x7fffffffL,
        0xff800001, 0xffc00000, -1L};
    private static final long[] DOUBLE_NANS = {0x7ff0000000000001L, 0x7ff8000000000000L,
        0x7fffffffffffffffL, 0xfff0000000000001L, 0xfff8000000000000L, -1L};

    /** No dial, no sort, no kind, no way, no what: far outside, and the nearest outside. */
    private static final int[] OUTSIDE = {Integer.MIN_VALUE, -2, -1, 16, 17, 24, Integer.MAX_VALUE};

    private static String sentence = "";
    private static int sentences = 0;
    private static int asked = 0;
    private static int wrong = 0;

    public static void main(String[] args) {
        whatItIs();
        termsOfDials();
        termsOfRods();
        termsOfGetting();
        termsOfSteps();
        termsOfRefusals();
        promises1To3();
        promises4To6();
        promises7To10();
        System.out.println(sentences + " sentences, " + asked + " answers asked, " + wrong + " wrong");
        if (wrong != 0) {
            System.exit(1);
        }
    }

    private static void whatItIs() {
        holds("An object is used for at most 512 calls", EdgesTest::the512thCall);
        holds("512 calls: a call with the most moves each time", EdgesTest::the512thCallOfMostMoves);
    }

    private static void termsOfDials() {
        holds("DIALS 0 .. 15, numbered as they come", EdgesTest::sixteenDials);
        holds("each of a KIND: 0 INT, 1 LONG, 2 FLOAT, 3 DOUBLE", EdgesTest::fourKinds);
        holds("INT (32 bits)", EdgesTest::endsOfInt);
        holds("LONG (64 bits)", EdgesTest::endsOfLong);
        holds("of FLOAT its 32 bits (as an int's number)", EdgesTest::bitsOfFloat);
        holds("of DOUBLE its 64 bits", EdgesTest::bitsOfDouble);
        holds("A long that is no int's number is none of INT", () -> noIntsNumber(INT));
        holds("A long that is no int's number is none of FLOAT", () -> noIntsNumber(FLOAT));
        holds("(NaN) is none of FLOAT", () -> noNumber(FLOAT, FLOAT_NANS));
        holds("(NaN) is none of DOUBLE", () -> noNumber(DOUBLE, DOUBLE_NANS));
        holds("NaN is none of FLOAT, DOUBLE, but of INT, LONG", EdgesTest::nanBitsOfWholeKinds);
        holds("ORDER: by size", EdgesTest::orderBySize);
        holds("ORDER: -0.0 below 0.0", EdgesTest::orderOfZeros);
        holds("FITTED is the greater of LOW and ..", EdgesTest::fittedToLow);
        holds("FITTED .. of the less of HIGH and it", EdgesTest::fittedToHigh);
        holds("FITTED between ENDS that are the same", EdgesTest::fittedToOneNumber);
        holds("FITTED (by ORDER)", EdgesTest::fittedZeros);
    }

    private static void termsOfRods() {
        holds("RODS 0 .. 23, numbered as they come", EdgesTest::twentyFourRods);
        holds("lead from a DIAL to another one", EdgesTest::rodsLeadOneWay);
        holds("of its KIND", EdgesTest::rodsOfOneKind);
        holds("0 the greater of both VALUES", EdgesTest::givesGreater);
        holds("1 the less", EdgesTest::givesLess);
        holds("2 the size of that at its end with the sign of that at its beginning",
            EdgesTest::givesSigned);
        holds("2 (-0.0 has a sign)", EdgesTest::givesSignOfZero);
        holds("2 (FLOAT, DOUBLE)", EdgesTest::signedOfRealsOnly);
        holds("3 the size of that at its beginning", EdgesTest::givesSize);
        holds("3 (of the least INT, LONG that itself)", EdgesTest::givesSizeOfLeast);
    }

    private static void termsOfGetting() {
        holds("if that is another one than its VALUE", EdgesTest::noMoveNoRods);
        holds("(other bits)", EdgesTest::otherBits);
        holds("it is FITTED; if that is another one", EdgesTest::fittedToItsValue);
        holds("the RODS that begin there are gone along", EdgesTest::rodsThatBeginThere);
        holds("in order", EdgesTest::rodsInOrder);
        holds("but those that were gone along in this call", EdgesTest::rodsOnceACall);
        holds("but those that were gone along in this call: by what came of an earlier ROD",
            EdgesTest::rodsGoneAlongDeeper);
        holds("in this call: in the next one again", EdgesTest::rodsAgainInTheNextCall);
        holds("GETS what the ROD GIVES then", EdgesTest::givesThen);
        holds("(all that comes of that first, then the next ROD)", EdgesTest::depthFirst);
        holds("a chain of all 24 RODS", EdgesTest::goesAlongAllRods);
    }

    private static void termsOfSteps() {
        holds("A call with a MOVE is a STEP", EdgesTest::callsThatAreSteps);
        holds("A call without a MOVE is none", EdgesTest::callsThatAreNoSteps);
        holds("the latest 6 can be", EdgesTest::sixSteps);
        holds("(a seventh pushes the earliest out)", EdgesTest::seventhStep);
        holds("(a seventh ..) many times round", EdgesTest::manySteps);
        holds("of those that are not taken back", EdgesTest::stepsAfterTakingBack);
    }

    private static void termsOfRefusals() {
        holds("refused, doing nothing: what is seen", EdgesTest::refusedLeavesWhatIsSeen);
        holds("refused, doing nothing: RODS and STEPS", EdgesTest::refusedLeavesRodsAndSteps);
        holds("by the first of the FAULTS: dial", EdgesTest::firstFaultOfDial);
        holds("by the first of the FAULTS: rod", EdgesTest::firstFaultOfRod);
        holds("by the first of the FAULTS: set, turn", EdgesTest::firstFaultOfSetAndTurn);
        holds("by the first of the FAULTS: take", EdgesTest::firstFaultOfTake);
        holds("by the first of the FAULTS: order", EdgesTest::firstFaultOfOrder);
        holds("NONE = -1", EdgesTest::none);
        holds("no call throws: an empty cabinet", EdgesTest::wildCallsWhenEmpty);
        holds("no call throws: a full cabinet", EdgesTest::wildCallsWhenFull);
    }

    private static void promises1To3() {
        holds("1: No DIALS, no RODS", EdgesTest::newCabinet);
        holds("1: each object by itself", EdgesTest::cabinetsApart);
        holds("2: its VALUE 0 FITTED", EdgesTest::firstValue);
        holds("2: its VALUE (0.0) FITTED", EdgesTest::firstValueOfReals);
        holds("2: NONE: WAY (kind)", EdgesTest::dialWay);
        holds("2: NONE: FULL", EdgesTest::dialFull);
        holds("2: NONE: NUMBER", EdgesTest::dialNumber);
        holds("2: NONE: ENDS", EdgesTest::dialEnds);
        holds("3: (nothing is moved by it)", EdgesTest::rodMovesNothing);
        holds("3: NONE: WAY (sort)", EdgesTest::rodWay);
        holds("3: NONE: DIAL", EdgesTest::rodDial);
        holds("3: NONE: UNLIKE", EdgesTest::rodUnlike);
        holds("3: NONE: WAY (2 of INT, LONG)", EdgesTest::rodSignedOfWhole);
        holds("3: NONE: FULL", EdgesTest::rodFull);
    }

    private static void promises4To6() {
        holds("4: how many MOVES", EdgesTest::setCountsMoves);
        holds("4: NONE: DIAL", EdgesTest::setDial);
        holds("4: NONE: NUMBER", EdgesTest::setNumber);
        holds("5: 0 its size", EdgesTest::turnSize);
        holds("5: 0 (of the least INT, LONG itself)", EdgesTest::turnSizeOfLeast);
        holds("5: 1 the next whole number down", EdgesTest::turnDown);
        holds("5: 2 up", EdgesTest::turnUp);
        holds("5: 3 the nearest", EdgesTest::turnNearest);
        holds("5: 3 (of two the even one)", EdgesTest::turnNearestOfTwo);
        holds("5: 1 to 3 of what is whole or infinite", EdgesTest::turnWholeOnes);
        holds("5: 1 to 3 of the largest with a fraction", EdgesTest::turnLargestFractions);
        holds("5: 4 its sign (1.0, -1.0)", EdgesTest::turnSign);
        holds("5: 4 (of a zero itself)", EdgesTest::turnSignOfZero);
        holds("5: a zero that comes of 1 to 3 has the VALUE's sign", EdgesTest::turnToZero);
        holds("5: GETS, of its VALUE: FITTED, along its RODS", EdgesTest::turnGets);
        holds("5: NONE: DIAL", EdgesTest::turnDial);
        holds("5: NONE: WAY", EdgesTest::turnWay);
        holds("6: what a ROD of that sort from e to d would GIVE", EdgesTest::takeGives);
        holds("6: DIAL d GETS: FITTED, along its RODS, how many MOVES", EdgesTest::takeGets);
        holds("6: NONE: DIAL (d, e)", EdgesTest::takeDial);
        holds("6: NONE: WAY (sort)", EdgesTest::takeWay);
        holds("6: NONE: UNLIKE", EdgesTest::takeUnlike);
        holds("6: NONE: WAY (2 of INT, LONG)", EdgesTest::takeSignedOfWhole);
    }

    private static void promises7To10() {
        holds("7: all VALUES are what they were ahead of it", EdgesTest::backRestoresAll);
        holds("7: taking back goes along no RODS, FITS nothing", EdgesTest::backGoesAlongNoRods);
        holds("7: (DIALS that came since stay as they are)", EdgesTest::backLeavesNewDials);
        holds("7: how many of them are others by that", EdgesTest::backCountsOthers);
        holds("7: others by that: none", EdgesTest::backOfNoOthers);
        holds("7: others by that: a zero's sign", EdgesTest::backOfZeros);
        holds("7: NONE: STEP", EdgesTest::backStep);
        holds("8: 1 above, -1 below, 0 the same", EdgesTest::orderAnswers);
        holds("8: -2: DIAL (d, e)", EdgesTest::orderDial);
        holds("8: -2: UNLIKE", EdgesTest::orderUnlike);
        holds("8: (of one DIAL twice 0)", EdgesTest::orderOfOneTwice);
        holds("9: what 0 its VALUE, 1 LOW, 2 HIGH, 3 its KIND", EdgesTest::lookAnswers);
        holds("9: 0 when there is none such DIAL", EdgesTest::lookNoDial);
        holds("9: 0 when there is none such what", EdgesTest::lookNoWhat);
        holds("10: DIALS (0), RODS (1)", EdgesTest::countDialsAndRods);
        holds("10: STEPS that can be taken back (2)", EdgesTest::countSteps);
        holds("10: MOVES in all (3; taking back is none)", EdgesTest::countMoves);
        holds("10: the FAULT of the latest call of those above look()", EdgesTest::countFault);
        holds("10: 0 if it was not refused", EdgesTest::countNoFault);
        holds("10: or before any", EdgesTest::countFaultBeforeAny);
        holds("10: NONE for another what", EdgesTest::countNoWhat);
    }

    // How answers are asked.

    private static void holds(String words, Runnable test) {
        sentence = words;
        sentences++;
        try {
            test.run();
        } catch (RuntimeException | StackOverflowError thrown) {
            tell(thrown + " was thrown");
        }
    }

    private static void due(String call, long got, long want) {
        asked++;
        if (got != want) {
            tell(call + " answered " + got + ", due is " + want);
        }
    }

    private static void tell(String fault) {
        wrong++;
        System.out.println("\"" + sentence + "\": " + fault);
    }

    private static long f(float x) {
        return Float.floatToRawIntBits(x);
    }

    private static long d(double x) {
        return Double.doubleToRawLongBits(x);
    }

    private static long real(int kind, double x) {
        return kind == FLOAT ? f((float) x) : d(x);
    }

    private static long least(int kind) {
        long[] all = {LEAST_INT, Long.MIN_VALUE, F_NEGATIVE, D_NEGATIVE};
        return all[kind];
    }

    private static long last(int kind) {
        long[] all = {LAST_INT, Long.MAX_VALUE, F_INFINITY, D_INFINITY};
        return all[kind];
    }

    /** A cabinet and what is due of each call; the ones named no.. are refused, doing nothing. */
    private static final class Asked {
        private final DetentCabinet x = new DetentCabinet();
        private int calls = 0;

        /** What is answered beyond the 512th call is free, so no test may ask there. */
        private void call() {
            calls++;
            if (calls > 512) {
                throw new IllegalStateException("more than 512 calls in \"" + sentence + "\"");
            }
        }

        Asked dial(int want, int kind, long low, long high) {
            call();
            due("dial(" + kind + ", " + low + ", " + high + ")", x.dial(kind, low, high), want);
            return this;
        }

        /** Dials of the kind from its least number to its last. */
        Asked wide(int kind, int dials) {
            for (int i = 0; i < dials; i++) {
                call();
                x.dial(kind, least(kind), last(kind));
            }
            return this;
        }

        Asked rod(int want, int sort, int from, int to) {
            call();
            due("rod(" + sort + ", " + from + ", " + to + ")", x.rod(sort, from, to), want);
            return this;
        }

        Asked set(int want, int d, long v) {
            call();
            due("set(" + d + ", " + v + ")", x.set(d, v), want);
            return this;
        }

        /** Makes it the dial's value, whether that is a move or not. */
        Asked put(int d, long v) {
            call();
            x.set(d, v);
            return this;
        }

        Asked turn(int want, int d, int way) {
            call();
            due("turn(" + d + ", " + way + ")", x.turn(d, way), want);
            return this;
        }

        Asked take(int want, int d, int e, int sort) {
            call();
            due("take(" + d + ", " + e + ", " + sort + ")", x.take(d, e, sort), want);
            return this;
        }

        Asked back(int want) {
            call();
            due("back()", x.back(), want);
            return this;
        }

        Asked order(int want, int d, int e) {
            call();
            due("order(" + d + ", " + e + ")", x.order(d, e), want);
            return this;
        }

        Asked look(long want, int d, int what) {
            call();
            due("look(" + d + ", " + what + ")", x.look(d, what), want);
            return this;
        }

        Asked count(int want, int what) {
            call();
            due("count(" + what + ")", x.count(what), want);
            return this;
        }

        /** The values of the first dials, in a row. */
        Asked values(long... want) {
            for (int d = 0; d < want.length; d++) {
                look(want[d], d, 0);
            }
            return this;
        }

        Asked noDial(int fault, int kind, long low, long high) {
            String ahead = state();
            return dial(-1, kind, low, high).refused(fault, ahead);
        }

        Asked noRod(int fault, int sort, int from, int to) {
            String ahead = state();
            return rod(-1, sort, from, to).refused(fault, ahead);
        }

        Asked noSet(int fault, int d, long v) {
            String ahead = state();
            return set(-1, d, v).refused(fault, ahead);
        }

        Asked noTurn(int fault, int d, int way) {
            String ahead = state();
            return turn(-1, d, way).refused(fault, ahead);
        }

        Asked noTake(int fault, int d, int e, int sort) {
            String ahead = state();
            return take(-1, d, e, sort).refused(fault, ahead);
        }

        Asked noBack(int fault) {
            String ahead = state();
            return back(-1).refused(fault, ahead);
        }

        Asked noOrder(int fault, int d, int e) {
            String ahead = state();
            return order(-2, d, e).refused(fault, ahead);
        }

        private Asked refused(int fault, String ahead) {
            count(fault, 4);
            String now = state();
            if (!now.equals(ahead)) {
                tell("a refused call made " + now + " of " + ahead);
            }
            return this;
        }

        private String state() {
            StringBuilder all = new StringBuilder();
            for (int what = 0; what <= 3; what++) {
                call();
                all.append(what == 0 ? "counts " : ", ").append(x.count(what));
            }
            call();
            int dials = x.count(0);
            for (int d = 0; d < dials; d++) {
                call();
                all.append(d == 0 ? "; values " : ", ").append(x.look(d, 0));
            }
            return all.toString();
        }
    }

    // What it is.

    private static void the512thCall() {
        Asked c = new Asked().wide(INT, 1);
        for (int i = 1; i <= 500; i++) {
            c.set(1, 0, i % 2 == 0 ? -i : i);
        }
        c.count(500, 3).count(6, 2).look(-500, 0, 0);
        c.back(1).back(1).back(1).back(1).back(1).back(1);
        c.back(-1);
        c.look(-494, 0, 0);
        due("calls of this run", c.calls, 512);
    }

    private static void the512thCallOfMostMoves() {
        Asked c = chainOfAllRods();
        for (int i = 0; i < 235; i++) {
            c.set(25, 0, i % 2 == 0 ? -5 : -6).back(16);
        }
        c.count(235 * 25, 3).count(0, 2);
        due("calls of this run", c.calls, 512);
    }

    /**
     * A chain of sizes from 0 to 9, back to 0, to 8 once more and on to 15: set(0, -5) goes along
     * every rod, each behind the one ahead of it. Dial 9 makes 4 of 5, so the second time moves.
     */
    private static Asked chainOfAllRods() {
        Asked c = new Asked().wide(INT, 9).dial(9, INT, -4, 4).wide(INT, 6);
        int from = 0;
        for (int i = 0; i < 24; i++) {
            int to = i == 9 ? 0 : i < 9 ? i + 1 : i < 18 ? i - 9 : i - 8;
            c.rod(i, SIZE, from, to);
            from = to;
        }
        return c;
    }

    // Terms: dials.

    private static void sixteenDials() {
        Asked c = new Asked();
        for (int i = 0; i < 16; i++) {
            c.count(i, 0).look(0, i, 2);
            c.dial(i, i % 4, 0, 1 + i).look(1 + i, i, 2);
            c.dial(-1, 4, 0, 0);
        }
        c.dial(-1, INT, 0, 0).count(5, 4).count(16, 0).look(0, 16, 2).look(0, -1, 2);
        for (int i = 0; i < 16; i++) {
            c.look(i % 4, i, 3).look(1 + i, i, 2).set(1, i, 1);
        }
        c.set(-1, 16, 1).set(-1, -1, 1);
    }

    private static void fourKinds() {
        Asked c = new Asked();
        for (int kind = 0; kind <= 3; kind++) {
            c.dial(kind, kind, 0, 1).look(kind, kind, 3);
        }
        for (int kind : new int[] {-1, 4, 5, Integer.MIN_VALUE, Integer.MAX_VALUE}) {
            c.noDial(WAY, kind, 0, 1);
        }
    }

    private static void endsOfInt() {
        new Asked().dial(0, INT, LEAST_INT, LAST_INT).look(LEAST_INT, 0, 1).look(LAST_INT, 0, 2)
            .set(1, 0, LEAST_INT).values(LEAST_INT).set(1, 0, LAST_INT).values(LAST_INT)
            .noSet(NUMBER, 0, LEAST_INT - 1).noSet(NUMBER, 0, LAST_INT + 1)
            .noDial(NUMBER, INT, LEAST_INT - 1, 0).noDial(NUMBER, INT, 0, LAST_INT + 1);
    }

    private static void endsOfLong() {
        new Asked().dial(0, LONG, Long.MIN_VALUE, Long.MAX_VALUE)
            .look(Long.MIN_VALUE, 0, 1).look(Long.MAX_VALUE, 0, 2)
            .set(1, 0, Long.MIN_VALUE).values(Long.MIN_VALUE)
            .set(1, 0, Long.MAX_VALUE).values(Long.MAX_VALUE)
            .set(1, 0, LAST_INT + 1).values(2147483648L)
            .set(1, 0, LEAST_INT - 1).values(-2147483649L)
            .set(1, 0, 1L << 32).values(4294967296L);
    }

    private static void bitsOfFloat() {
        new Asked().dial(0, FLOAT, -8388608L, 2139095040L).look(-8388608L, 0, 1)
            .set(1, 0, -1082130432L).values(f(-1f))
            .set(1, 0, -2147483648L).values(f(-0f))
            .set(1, 0, -2147483647L).values(f(-Float.MIN_VALUE))
            .set(1, 0, -8388609L).values(f(-Float.MAX_VALUE))
            .set(1, 0, -8388608L).values(F_NEGATIVE)
            .set(1, 0, 2139095039L).values(f(Float.MAX_VALUE))
            .set(1, 0, 2139095040L).values(F_INFINITY)
            // The same bits without the sign of an int stand for nothing.
            .noSet(NUMBER, 0, 0xbf800000L).noSet(NUMBER, 0, 0x80000000L)
            .noSet(NUMBER, 0, 0xff800000L).noDial(NUMBER, FLOAT, 0xff800000L, 0)
            // Negative ones that are made by the cabinet are told so too.
            .set(1, 0, f(-0.5f)).turn(1, 0, DOWN).values(-1082130432L)
            .set(1, 0, f(-0.5f)).turn(1, 0, UP).values(-2147483648L);
    }

    private static void bitsOfDouble() {
        new Asked().dial(0, DOUBLE, 0xfff0000000000000L, 0x7ff0000000000000L)
            .set(1, 0, Long.MIN_VALUE).values(d(-0.0))
            .set(1, 0, Long.MIN_VALUE + 1).values(d(-Double.MIN_VALUE))
            .set(1, 0, 1).values(d(Double.MIN_VALUE))
            .set(1, 0, 0x7fefffffffffffffL).values(d(Double.MAX_VALUE))
            .set(1, 0, 0x7ff0000000000000L).values(D_INFINITY)
            .set(1, 0, 0xffefffffffffffffL).values(d(-Double.MAX_VALUE))
            .set(1, 0, 0xfff0000000000000L).values(D_NEGATIVE)
            // A float's bits are a double's too, of another number.
            .set(1, 0, 0xff800000L).values(0xff800000L);
    }

    private static void noIntsNumber(int kind) {
        Asked c = new Asked().wide(kind, 1);
        for (long v : NO_INTS) {
            c.noSet(NUMBER, 0, v).noDial(NUMBER, kind, v, last(kind)).noDial(NUMBER, kind, least(kind), v);
        }
    }

    private static void noNumber(int kind, long[] nans) {
        Asked c = new Asked().wide(kind, 1);
        for (long v : nans) {
            c.noSet(NUMBER, 0, v).noDial(NUMBER, kind, v, last(kind)).noDial(NUMBER, kind, least(kind), v);
        }
        // The neighbours of those, the infinities, are numbers.
        c.set(1, 0, last(kind)).set(1, 0, least(kind)).dial(1, kind, least(kind), last(kind));
    }

    private static void nanBitsOfWholeKinds() {
        Asked c = new Asked().wide(INT, 1).wide(LONG, 1);
        for (long v : FLOAT_NANS) {
            c.set(1, 0, v).look(v, 0, 0);
        }
        for (long v : DOUBLE_NANS) {
            c.set(1, 1, v).look(v, 1, 0);
        }
        c.dial(2, INT, FLOAT_NANS[3], FLOAT_NANS[0]).dial(3, LONG, DOUBLE_NANS[3], DOUBLE_NANS[0]);
    }

    private static void orderBySize() {
        rising(INT, LEAST_INT, LEAST_INT + 1, -2, -1, 0, 1, 2, LAST_INT - 1, LAST_INT);
        rising(LONG, Long.MIN_VALUE, Long.MIN_VALUE + 1, LEAST_INT - 1, -1, 0, 1, LAST_INT + 1,
            Long.MAX_VALUE - 1, Long.MAX_VALUE);
        rising(FLOAT, F_NEGATIVE, f(-Float.MAX_VALUE), f(-2f), f(-1f), f(-Float.MIN_NORMAL),
            f(-Float.MIN_VALUE), 0, f(Float.MIN_VALUE), f(Float.MIN_NORMAL), f(1f), f(2f),
            f(Float.MAX_VALUE), F_INFINITY);
        rising(DOUBLE, D_NEGATIVE, d(-Double.MAX_VALUE), d(-2), d(-1), d(-Double.MIN_NORMAL),
            d(-Double.MIN_VALUE), 0, d(Double.MIN_VALUE), d(Double.MIN_NORMAL), d(1), d(2),
            d(Double.MAX_VALUE), D_INFINITY);
    }

    private static void rising(int kind, long... numbers) {
        for (int a = 0; a < numbers.length; a++) {
            Asked c = new Asked().wide(kind, 2).put(0, numbers[a]);
            int dials = 2;
            for (int b = 0; b < numbers.length; b++) {
                c.put(1, numbers[b]).order(Integer.compare(a, b), 0, 1);
                c.dial(a <= b ? dials++ : -1, kind, numbers[a], numbers[b]);
            }
        }
    }

    private static void orderOfZeros() {
        for (int kind = FLOAT; kind <= DOUBLE; kind++) {
            long below = real(kind, -0.0);
            Asked c = new Asked().wide(kind, 3).set(1, 0, below).look(below, 0, 0);
            c.order(-1, 0, 1).order(1, 1, 0).order(0, 1, 2);
            c.set(1, 1, below).order(0, 0, 1).order(-1, 0, 2);
            c.noDial(ENDS, kind, 0, below).dial(3, kind, below, 0);
            c.set(1, 3, below).set(1, 3, 0).set(0, 3, 0);
        }
    }

    private static void fittedToLow() {
        new Asked().dial(0, INT, -3, 9).set(1, 0, -2).values(-2).set(1, 0, -3).values(-3)
            .set(0, 0, -4).values(-3).set(0, 0, LEAST_INT).values(-3);
        new Asked().dial(0, LONG, -3, 9).set(1, 0, Long.MIN_VALUE).values(-3);
        for (int kind = FLOAT; kind <= DOUBLE; kind++) {
            long low = real(kind, -2.5);
            // Bits grow as numbers below zero sink.
            new Asked().dial(0, kind, low, real(kind, 7)).set(1, 0, low - 1).look(low - 1, 0, 0)
                .set(1, 0, low).values(low).set(0, 0, low + 1).values(low)
                .set(0, 0, least(kind)).values(low);
            new Asked().dial(0, kind, 1, real(kind, 7)).values(1).set(0, 0, 0).values(1)
                .set(0, 0, real(kind, -0.0)).values(1).set(1, 0, 2).values(2);
        }
    }

    private static void fittedToHigh() {
        new Asked().dial(0, INT, -3, 9).set(1, 0, 8).values(8).set(1, 0, 9).values(9)
            .set(0, 0, 10).values(9).set(0, 0, LAST_INT).values(9);
        new Asked().dial(0, LONG, -3, 9).set(1, 0, Long.MAX_VALUE).values(9);
        for (int kind = FLOAT; kind <= DOUBLE; kind++) {
            long high = real(kind, 2.5);
            new Asked().dial(0, kind, real(kind, -7), high).set(1, 0, high - 1).look(high - 1, 0, 0)
                .set(1, 0, high).values(high).set(0, 0, high + 1).values(high)
                .set(0, 0, last(kind)).values(high);
            high = real(kind, -2.5);
            new Asked().dial(0, kind, real(kind, -7), high).values(high).set(0, 0, high - 1)
                .set(1, 0, high + 1).values(high + 1).set(1, 0, 0).values(high);
        }
    }

    private static void fittedToOneNumber() {
        new Asked().dial(0, INT, LAST_INT, LAST_INT).values(LAST_INT).set(0, 0, LEAST_INT)
            .set(0, 0, 0).set(0, 0, LAST_INT).values(LAST_INT).count(0, 2);
        new Asked().dial(0, LONG, Long.MIN_VALUE, Long.MIN_VALUE).values(Long.MIN_VALUE)
            .set(0, 0, Long.MAX_VALUE).turn(0, 0, 0).values(Long.MIN_VALUE);
        new Asked().dial(0, FLOAT, F_NEGATIVE, F_NEGATIVE).values(F_NEGATIVE)
            .set(0, 0, F_INFINITY).turn(0, 0, 0).turn(0, 0, SIGN).values(F_NEGATIVE);
        new Asked().dial(0, DOUBLE, D_INFINITY, D_INFINITY).values(D_INFINITY)
            .set(0, 0, d(Double.MAX_VALUE)).turn(0, 0, SIGN).values(D_INFINITY);
    }

    private static void fittedZeros() {
        for (int kind = FLOAT; kind <= DOUBLE; kind++) {
            long below = real(kind, -0.0);
            new Asked().dial(0, kind, below, below).values(below).set(0, 0, 0)
                .set(0, 0, last(kind)).set(0, 0, least(kind)).values(below);
            new Asked().dial(0, kind, 0, 0).values(0).set(0, 0, below)
                .set(0, 0, last(kind)).set(0, 0, least(kind)).values(0);
            new Asked().dial(0, kind, least(kind), below).values(below).set(0, 0, 0).values(below);
            new Asked().dial(0, kind, 0, last(kind)).values(0).set(0, 0, below).values(0);
            new Asked().dial(0, kind, below, 0).values(0).set(1, 0, least(kind)).values(below)
                .set(1, 0, last(kind)).values(0);
        }
    }

    // Terms: rods.

    private static void twentyFourRods() {
        Asked c = new Asked().wide(INT, 4);
        for (int i = 0; i < 24; i++) {
            c.count(i, 1);
            // The first leads to 1, the last to 3, those between to 2.
            c.rod(i, SIZE, 0, i == 0 ? 1 : i == 23 ? 3 : 2);
            c.rod(-1, SIGNED, 0, 1);
        }
        c.count(24, 1).noRod(FULL, SIZE, 0, 1).noRod(FULL, GREATER, 3, 2);
        c.set(4, 0, -7).values(-7, 7, 7, 7);
    }

    private static void rodsLeadOneWay() {
        new Asked().wide(LONG, 2).rod(0, SIZE, 0, 1).set(1, 1, -5).values(0, -5)
            .set(2, 0, -8).values(-8, 8).set(1, 1, 4).values(-8, 4)
            .noRod(UNLIKE, SIZE, 0, 0).noRod(UNLIKE, GREATER, 1, 1);
    }

    private static void rodsOfOneKind() {
        Asked c = new Asked().wide(INT, 1).wide(LONG, 1).wide(FLOAT, 1).wide(DOUBLE, 1);
        for (int from = 0; from < 4; from++) {
            for (int to = 0; to < 4; to++) {
                c.noRod(UNLIKE, (from + to) % 4, from, to);
            }
        }
        for (int kind = 0; kind < 4; kind++) {
            c.wide(kind, 1).rod(kind, SIZE, kind, 4 + kind);
        }
    }

    private static void gives(int kind, int sort, long beginning, long end, long given) {
        Asked c = new Asked().wide(kind, 2).rod(0, sort, 0, 1);
        if (beginning == 0) {
            // A rod is gone along only behind a move.
            c.put(0, last(kind));
        }
        c.put(1, end).set(given == end ? 1 : 2, 0, beginning).values(beginning, given);
    }

    private static void givesGreater() {
        gives(INT, GREATER, 4, 3, 4);
        gives(INT, GREATER, 3, 4, 4);
        gives(INT, GREATER, 4, 4, 4);
        gives(INT, GREATER, LAST_INT, LEAST_INT, LAST_INT);
        gives(INT, GREATER, LEAST_INT, LAST_INT, LAST_INT);
        gives(LONG, GREATER, Long.MIN_VALUE, Long.MAX_VALUE, Long.MAX_VALUE);
        gives(LONG, GREATER, Long.MAX_VALUE, Long.MIN_VALUE, Long.MAX_VALUE);
        for (int kind = FLOAT; kind <= DOUBLE; kind++) {
            long below = real(kind, -0.0);
            gives(kind, GREATER, 0, below, 0);
            gives(kind, GREATER, below, 0, 0);
            gives(kind, GREATER, below, below, below);
            gives(kind, GREATER, real(kind, -2), real(kind, -3), real(kind, -2));
            gives(kind, GREATER, real(kind, -3), real(kind, -2), real(kind, -2));
            gives(kind, GREATER, last(kind), least(kind), last(kind));
            gives(kind, GREATER, least(kind), below, below);
        }
    }

    private static void givesLess() {
        gives(INT, LESS, 4, 3, 3);
        gives(INT, LESS, 3, 4, 3);
        gives(INT, LESS, 4, 4, 4);
        gives(INT, LESS, LAST_INT, LEAST_INT, LEAST_INT);
        gives(INT, LESS, LEAST_INT, LAST_INT, LEAST_INT);
        gives(LONG, LESS, Long.MIN_VALUE, Long.MAX_VALUE, Long.MIN_VALUE);
        gives(LONG, LESS, Long.MAX_VALUE, Long.MIN_VALUE, Long.MIN_VALUE);
        for (int kind = FLOAT; kind <= DOUBLE; kind++) {
            long below = real(kind, -0.0);
            gives(kind, LESS, 0, below, below);
            gives(kind, LESS, below, 0, below);
            gives(kind, LESS, below, below, below);
            gives(kind, LESS, real(kind, -2), real(kind, -3), real(kind, -3));
            gives(kind, LESS, real(kind, -3), real(kind, -2), real(kind, -3));
            gives(kind, LESS, last(kind), least(kind), least(kind));
            gives(kind, LESS, least(kind), below, least(kind));
        }
    }

    private static void givesSigned() {
        for (int kind = FLOAT; kind <= DOUBLE; kind++) {
            gives(kind, SIGNED, real(kind, -2), real(kind, 7.5), real(kind, -7.5));
            gives(kind, SIGNED, real(kind, 2), real(kind, -7.5), real(kind, 7.5));
            gives(kind, SIGNED, real(kind, -2), real(kind, -7.5), real(kind, -7.5));
            gives(kind, SIGNED, real(kind, 2), real(kind, 7.5), real(kind, 7.5));
            gives(kind, SIGNED, least(kind), last(kind), least(kind));
            gives(kind, SIGNED, last(kind), least(kind), last(kind));
            gives(kind, SIGNED, least(kind), 1, real(kind, -0.0) + 1);
        }
    }

    private static void givesSignOfZero() {
        for (int kind = FLOAT; kind <= DOUBLE; kind++) {
            long below = real(kind, -0.0);
            gives(kind, SIGNED, below, real(kind, 3), real(kind, -3));
            gives(kind, SIGNED, 0, real(kind, -3), real(kind, 3));
            gives(kind, SIGNED, below, last(kind), least(kind));
            // A zero at the end has a size too, and takes the sign.
            gives(kind, SIGNED, real(kind, -3), 0, below);
            gives(kind, SIGNED, real(kind, 3), below, 0);
            gives(kind, SIGNED, below, 0, below);
            gives(kind, SIGNED, 0, below, 0);
        }
    }

    private static void signedOfRealsOnly() {
        new Asked().wide(INT, 2).noRod(WAY, SIGNED, 0, 1).noTake(WAY, 0, 1, SIGNED);
        new Asked().wide(LONG, 2).noRod(WAY, SIGNED, 0, 1).noTake(WAY, 0, 1, SIGNED);
        new Asked().wide(FLOAT, 2).rod(0, SIGNED, 0, 1).take(0, 0, 1, SIGNED);
        new Asked().wide(DOUBLE, 2).rod(0, SIGNED, 0, 1).take(0, 0, 1, SIGNED);
    }

    private static void givesSize() {
        gives(INT, SIZE, -7, 3, 7);
        gives(INT, SIZE, 7, -9, 7);
        gives(INT, SIZE, 0, 5, 0);
        gives(INT, SIZE, LEAST_INT + 1, 3, LAST_INT);
        gives(LONG, SIZE, Long.MIN_VALUE + 1, 3, Long.MAX_VALUE);
        gives(LONG, SIZE, LEAST_INT, 3, LAST_INT + 1);
        for (int kind = FLOAT; kind <= DOUBLE; kind++) {
            gives(kind, SIZE, real(kind, -0.0), real(kind, 3), 0);
            gives(kind, SIZE, real(kind, -2.5), real(kind, -3), real(kind, 2.5));
            gives(kind, SIZE, least(kind), real(kind, -3), last(kind));
            gives(kind, SIZE, real(kind, -0.0) + 1, real(kind, -3), 1);
        }
    }

    private static void givesSizeOfLeast() {
        gives(INT, SIZE, LEAST_INT, 3, LEAST_INT);
        gives(LONG, SIZE, Long.MIN_VALUE, 3, Long.MIN_VALUE);
        // It is FITTED as the least that it is.
        new Asked().wide(INT, 1).dial(1, INT, -9, 9).rod(0, SIZE, 0, 1)
            .set(2, 0, LEAST_INT).values(LEAST_INT, -9);
        new Asked().wide(LONG, 1).dial(1, LONG, -9, 9).rod(0, SIZE, 0, 1)
            .set(2, 0, Long.MIN_VALUE).values(Long.MIN_VALUE, -9);
    }

    // Terms: getting.

    private static void noMoveNoRods() {
        Asked c = new Asked().wide(INT, 2).set(1, 0, -6).rod(0, SIZE, 0, 1);
        c.set(0, 0, -6).values(-6, 0).set(2, 0, -5).values(-5, 5);
        c.set(1, 1, 1).set(0, 0, -5).values(-5, 1).count(4, 3).count(3, 2);
    }

    private static void otherBits() {
        for (int kind = FLOAT; kind <= DOUBLE; kind++) {
            long below = real(kind, -0.0);
            new Asked().wide(kind, 2).rod(0, SIGNED, 0, 1).set(2, 0, below).values(below, below)
                .set(0, 0, below).set(2, 0, 0).values(0, 0).set(0, 0, 0).count(4, 3).count(2, 2);
        }
    }

    private static void fittedToItsValue() {
        new Asked().dial(0, INT, -3, 3).wide(INT, 1).rod(0, SIZE, 0, 1).set(2, 0, 50).values(3, 3)
            .set(1, 1, 0).set(0, 0, 51).set(0, 0, 3).set(0, 0, LAST_INT).values(3, 0)
            .set(2, 0, -50).values(-3, 3).set(0, 0, -51).count(5, 3);
    }

    private static void rodsThatBeginThere() {
        new Asked().wide(INT, 4).rod(0, SIZE, 1, 2).rod(1, SIZE, 0, 3).rod(2, SIZE, 2, 0)
            .set(2, 0, -4).values(-4, 0, 0, 4)
            .set(4, 1, -9).values(9, -9, 9, 9);
    }

    private static void rodsInOrder() {
        // The less and the size of -6: the later rod has the last word.
        new Asked().wide(INT, 2).rod(0, LESS, 0, 1).rod(1, SIZE, 0, 1).set(3, 0, -6).values(-6, 6);
        new Asked().wide(INT, 2).rod(0, SIZE, 0, 1).rod(1, LESS, 0, 1).set(3, 0, -6).values(-6, -6);
        // The same with rods of other dials between them.
        new Asked().wide(INT, 4).rod(0, SIZE, 2, 3).rod(1, LESS, 0, 1).rod(2, SIZE, 3, 2)
            .rod(3, SIZE, 0, 1).set(3, 0, -6).values(-6, 6, 0, 0);
    }

    private static void rodsOnceACall() {
        // 0 to -5, 1 to -3, 0 to 3: rod 0 would make 1 a 3 now, but was gone along.
        new Asked().wide(FLOAT, 2).set(1, 1, f(3f)).rod(0, SIGNED, 0, 1).rod(1, SIZE, 1, 0)
            .set(3, 0, f(-5f)).values(f(3f), f(-3f));
        // A second rod of that sort is another one.
        new Asked().wide(FLOAT, 2).set(1, 1, f(3f)).rod(0, SIGNED, 0, 1).rod(1, SIZE, 1, 0)
            .rod(2, SIGNED, 0, 1).set(4, 0, f(-5f)).values(f(3f), f(3f));
        // A rod that moved nothing was gone along all the same: rod 0 leaves 1 at 5; then 2 to 7
        // (its low end), 0 to 7, which rod 0 would give on to 1.
        new Asked().wide(INT, 2).dial(2, INT, 7, 9).set(1, 1, 5).set(1, 2, 9)
            .rod(0, GREATER, 0, 1).rod(1, SIZE, 0, 2).rod(2, SIZE, 2, 0)
            .set(3, 0, -4).values(7, 5, 7);
    }

    private static void rodsGoneAlongDeeper() {
        // 0 to -1, 1 to -2 (rod 0), 0 to 2 (rod 2), 3 to 7 (rod 1), 2 to 7 (rod 3), 3 to -2
        // (rod 4). Now the turn of rod 1 would come, which would make 3 a 2.
        new Asked().wide(DOUBLE, 4).set(1, 3, d(-7)).set(1, 1, d(2)).rod(0, SIGNED, 0, 1)
            .rod(1, SIGNED, 0, 3).rod(2, SIZE, 1, 0).rod(3, SIZE, 3, 2).rod(4, LESS, 1, 3)
            .set(6, 0, d(-1)).values(d(2), d(-2), d(7), d(-2));
    }

    private static void rodsAgainInTheNextCall() {
        Asked c = new Asked().wide(INT, 3).rod(0, SIZE, 0, 1).rod(1, SIZE, 1, 2);
        c.set(3, 0, -1).set(3, 0, -2).set(0, 0, -2).set(3, 0, 3).values(3, 3, 3);
        c.back(3).set(3, 0, 4).values(4, 4, 4).set(1, 0, -4).set(2, 1, 9).values(-4, 9, 9);
        c.put(1, -6).take(2, 0, 1, SIZE).values(6, 6, 6).put(0, -8).set(0, 1, 8).turn(1, 0, 0);
    }

    private static void givesThen() {
        // Behind rod 0 the dial at its beginning is 4 and no longer 9: rod 2 gives that.
        new Asked().wide(INT, 1).dial(1, INT, -4, 4).wide(INT, 1).rod(0, SIZE, 0, 1)
            .rod(1, SIZE, 1, 0).rod(2, SIZE, 0, 2).set(4, 0, 9).values(4, 4, 4);
        // Behind rod 0 the dial at its end is 6 and no longer -8: rod 1 gives the less of both, 6.
        new Asked().wide(INT, 2).set(1, 1, -8).rod(0, SIZE, 0, 1).rod(1, LESS, 0, 1)
            .set(2, 0, 6).values(6, 6);
    }

    private static void depthFirst() {
        // 1 to -5 and behind it 2 to 5, 3 to 5; then rod 1 finds 2 at 5 already.
        new Asked().wide(INT, 4).set(1, 1, 7).rod(0, LESS, 0, 1).rod(1, SIZE, 0, 2)
            .rod(2, SIZE, 1, 2).rod(3, SIZE, 2, 3).set(4, 0, -5).values(-5, -5, 5, 5);
        // Rod 2 makes 2 a -1, then rod 1 makes it a 1; the other way about it would end at -1.
        new Asked().wide(FLOAT, 3).set(1, 1, f(-2f)).set(1, 2, f(3f)).rod(0, GREATER, 0, 1)
            .rod(1, SIZE, 0, 2).rod(2, LESS, 1, 2).set(4, 0, f(-1f)).values(f(-1f), f(-1f), f(1f));
    }

    private static void goesAlongAllRods() {
        Asked c = chainOfAllRods();
        c.set(25, 0, -5).values(4, 4, 4, 4, 4, 4, 4, 4, 4, 4, 4, 4, 4, 4, 4, 4);
        c.count(25, 3).count(1, 2).back(16).values(0, 0, 0, 0, 0, 0, 0, 0, 0, 0, 0, 0, 0, 0, 0, 0);
    }

    // Terms: steps.

    private static void callsThatAreSteps() {
        new Asked().wide(DOUBLE, 3).rod(0, SIZE, 0, 1).count(0, 2)
            .set(2, 0, d(-1.5)).count(1, 2)
            .turn(2, 0, DOWN).count(2, 2)
            .take(1, 2, 0, LESS).count(3, 2)
            .back(1).values(d(-2), d(2), 0)
            .back(2).values(d(-1.5), d(1.5), 0)
            .back(2).values(0, 0, 0).count(0, 2);
    }

    private static void callsThatAreNoSteps() {
        Asked c = new Asked().wide(INT, 2).set(1, 0, 5).count(1, 2);
        c.set(0, 0, 5).count(1, 2).turn(0, 0, 0).count(1, 2).take(0, 0, 1, GREATER).count(1, 2);
        c.rod(0, SIZE, 0, 1).count(1, 2).dial(2, INT, 3, 4).count(1, 2);
        c.order(1, 0, 1).look(5, 0, 0).count(1, 2);
        c.set(-1, 9, 0).turn(-1, 0, 1).take(-1, 0, 0, 0).count(1, 2);
        c.back(1).values(0, 0, 3).count(0, 2).back(-1).count(0, 2);
    }

    private static void sixSteps() {
        Asked c = new Asked().wide(INT, 1);
        for (int i = 1; i <= 6; i++) {
            c.set(1, 0, 10 * i).count(i, 2);
        }
        for (int i = 5; i >= 0; i--) {
            c.back(1).values(10 * i).count(i, 2);
        }
        c.noBack(STEP);
    }

    private static void seventhStep() {
        Asked c = new Asked().wide(INT, 1);
        for (int i = 1; i <= 7; i++) {
            c.set(1, 0, 10 * i);
        }
        // No step, nothing is pushed out.
        c.count(6, 2).set(0, 0, 70).count(6, 2);
        for (int i = 6; i >= 1; i--) {
            c.back(1).values(10 * i).count(i - 1, 2);
        }
        c.noBack(STEP).values(10);
        c.set(1, 0, 11).count(1, 2).back(1).values(10).noBack(STEP);
    }

    private static void manySteps() {
        for (int steps = 8; steps <= 40; steps++) {
            Asked c = new Asked().wide(LONG, 1);
            for (int i = 1; i <= steps; i++) {
                c.set(1, 0, 10L * i).count(Math.min(i, 6), 2);
            }
            for (int i = 1; i <= 6; i++) {
                c.back(1).values(10L * (steps - i)).count(6 - i, 2);
            }
            c.noBack(STEP);
        }
    }

    private static void stepsAfterTakingBack() {
        // Two of six taken back make room for two: none is pushed out.
        Asked c = new Asked().wide(INT, 1);
        for (int i = 1; i <= 6; i++) {
            c.set(1, 0, i);
        }
        c.back(1).back(1).values(4).count(4, 2).set(1, 0, 15).set(1, 0, 16).count(6, 2);
        for (int want : new int[] {15, 4, 3, 2, 1, 0}) {
            c.back(1).values(want);
        }
        c.noBack(STEP);
        // What a seventh has pushed out stays out when the seventh is taken back.
        Asked e = new Asked().wide(INT, 1);
        for (int i = 1; i <= 7; i++) {
            e.set(1, 0, i);
        }
        e.back(1).count(5, 2).set(1, 0, 17).count(6, 2).set(1, 0, 18).count(6, 2);
        for (int want : new int[] {17, 6, 5, 4, 3, 2}) {
            e.back(1).values(want);
        }
        e.noBack(STEP);
    }

    // Terms: refusals.

    private static void refusedLeavesWhatIsSeen() {
        Asked c = new Asked().dial(0, INT, -5, 5).dial(1, INT, -6, 6).dial(2, FLOAT, f(1f), f(2f));
        c.set(1, 0, 3).set(1, 1, -4).rod(0, SIZE, 0, 1);
        c.noDial(WAY, 4, 1, 2).noDial(NUMBER, INT, 1, LAST_INT + 1).noDial(ENDS, INT, 2, 1);
        c.noRod(WAY, 4, 0, 1).noRod(DIAL, 0, 0, 3).noRod(UNLIKE, 0, 0, 2).noRod(WAY, SIGNED, 0, 1);
        c.noSet(DIAL, 3, 1).noSet(NUMBER, 0, LAST_INT + 1).noSet(NUMBER, 2, FLOAT_NANS[0]);
        c.noTurn(DIAL, 3, 0).noTurn(WAY, 1, DOWN).noTurn(WAY, 2, 5);
        c.noTake(DIAL, 0, 3, 0).noTake(WAY, 0, 1, 4).noTake(UNLIKE, 0, 2, 0);
        c.noTake(WAY, 0, 1, SIGNED).noOrder(DIAL, 0, 3).noOrder(UNLIKE, 0, 2);
        c.look(-5, 0, 1).look(5, 0, 2).look(0, 0, 3).look(f(1f), 2, 1).look(f(2f), 2, 2).look(2, 2, 3);
        c.look(0, 3, 1).look(0, 3, 2).look(0, 3, 3).count(3, 0).count(1, 1).count(2, 2).count(2, 3);
    }

    private static void refusedLeavesRodsAndSteps() {
        Asked c = new Asked().wide(INT, 3).rod(0, SIZE, 0, 1);
        for (int i = 1; i <= 6; i++) {
            c.set(2, 0, -i);
        }
        c.rod(-1, SIGNED, 0, 2).rod(-1, SIZE, 0, 3).rod(-1, 4, 0, 2).rod(-1, SIZE, 0, 0);
        c.set(-1, 3, 7).set(-1, 0, LAST_INT + 1).turn(-1, 0, SIGN).take(-1, 0, 2, SIGNED);
        c.dial(-1, INT, 1, 0).order(-2, 0, 3);
        // The next rod is 1, and only rod 0 begins at 0.
        c.count(6, 2).set(2, 0, -7).values(-7, 7, 0).rod(1, SIZE, 1, 2);
        for (int i = 6; i >= 1; i--) {
            c.set(-1, 3, 7).back(2).values(-i, i, 0);
        }
        c.noBack(STEP).noBack(STEP).set(3, 0, -9).values(-9, 9, 9).back(3).values(-1, 1, 0);
    }

    private static void firstFaultOfDial() {
        Asked c = new Asked();
        c.noDial(WAY, 4, LAST_INT + 1, 0).noDial(WAY, -1, 1, 0);
        c.noDial(NUMBER, INT, LAST_INT + 1, 0).noDial(NUMBER, INT, 0, LEAST_INT - 1);
        c.noDial(NUMBER, FLOAT, FLOAT_NANS[1], F_NEGATIVE).noDial(NUMBER, FLOAT, F_INFINITY, -1);
        c.noDial(NUMBER, DOUBLE, DOUBLE_NANS[1], D_NEGATIVE).noDial(NUMBER, DOUBLE, D_INFINITY, -1);
        c.wide(INT, 15).noDial(ENDS, INT, 1, 0).wide(INT, 1);
        c.noDial(WAY, 4, 1, 0).noDial(FULL, INT, LAST_INT + 1, 0).noDial(FULL, DOUBLE, -1, -1);
        c.noDial(FULL, INT, 1, 0).noDial(FULL, INT, 0, 1);
    }

    private static void firstFaultOfRod() {
        Asked c = new Asked().wide(INT, 2).wide(LONG, 1);
        c.noRod(WAY, 4, 3, 3).noRod(WAY, -1, 0, 0).noRod(WAY, 4, 0, 2);
        c.noRod(DIAL, SIGNED, 3, 3).noRod(DIAL, SIGNED, -1, -1).noRod(DIAL, SIZE, 2, 3);
        c.noRod(UNLIKE, SIGNED, 0, 0).noRod(UNLIKE, SIGNED, 0, 2).noRod(WAY, SIGNED, 0, 1);
        for (int i = 0; i < 24; i++) {
            c.rod(i, SIZE, 0, 1);
        }
        c.noRod(WAY, 4, 0, 1).noRod(DIAL, SIZE, 0, 3).noRod(UNLIKE, SIZE, 0, 2);
        c.noRod(UNLIKE, SIZE, 1, 1).noRod(WAY, SIGNED, 0, 1).noRod(FULL, SIZE, 0, 1);
    }

    private static void firstFaultOfSetAndTurn() {
        new Asked().wide(INT, 1).noSet(DIAL, 1, LAST_INT + 1).noSet(DIAL, -1, Long.MIN_VALUE)
            .noSet(NUMBER, 0, LAST_INT + 1).noTurn(DIAL, 1, 5).noTurn(DIAL, -1, -1)
            .noTurn(DIAL, 1, DOWN).noTurn(WAY, 0, DOWN);
    }

    private static void firstFaultOfTake() {
        new Asked().wide(INT, 2).wide(LONG, 1)
            .noTake(DIAL, 3, 3, 4).noTake(DIAL, 0, 3, -1).noTake(DIAL, 3, 0, SIGNED)
            .noTake(WAY, 0, 0, 4).noTake(WAY, 0, 2, -1)
            .noTake(UNLIKE, 0, 0, SIGNED).noTake(UNLIKE, 0, 2, SIGNED).noTake(WAY, 0, 1, SIGNED);
    }

    private static void firstFaultOfOrder() {
        // What is no dial has no kind: two such are no "one DIAL twice" either.
        new Asked().wide(INT, 1).wide(LONG, 1).noOrder(DIAL, 2, 2).noOrder(DIAL, -1, -1)
            .noOrder(DIAL, 0, 2).noOrder(DIAL, 2, 1).noOrder(UNLIKE, 0, 1);
    }

    private static void none() {
        due("NONE", DetentCabinet.NONE, -1);
        new Asked().dial(DetentCabinet.NONE, 4, 0, 0).rod(DetentCabinet.NONE, 0, 0, 1)
            .set(DetentCabinet.NONE, 0, 0).turn(DetentCabinet.NONE, 0, 0)
            .take(DetentCabinet.NONE, 0, 1, 0).back(DetentCabinet.NONE).count(DetentCabinet.NONE, 5);
    }

    private static void wildCallsWhenEmpty() {
        for (int a : OUTSIDE) {
            for (int b : OUTSIDE) {
                new Asked().noDial(WAY, a, b, b).noRod(WAY, a, b, b).noRod(DIAL, 0, a, b)
                    .noSet(DIAL, a, b).noTurn(DIAL, a, b).noTake(DIAL, a, b, b).noBack(STEP)
                    .noOrder(DIAL, a, b).look(0, a, b).look(0, a, 0).count(-1, b);
            }
        }
    }

    private static void wildCallsWhenFull() {
        for (int a : OUTSIDE) {
            for (int b : OUTSIDE) {
                Asked c = new Asked().wide(FLOAT, 16);
                for (int i = 0; i < 24; i++) {
                    c.rod(i, SIGNED, i % 16, (i + 1) % 16);
                }
                c.dial(-1, a, b, b).rod(-1, a, b, b).rod(-1, 0, a, b).rod(-1, 0, 0, b);
                c.set(-1, a, b).set(-1, a, Long.MAX_VALUE).turn(-1, a, b).turn(-1, 0, b);
                c.take(-1, a, b, b).take(-1, 0, b, a).take(-1, b, 0, a).take(-1, 0, 1, b);
                c.order(-2, a, b).order(-2, 0, b).order(-2, a, 15);
                c.look(0, a, b).look(0, 15, b).look(0, a, 3).count(-1, b);
                c.back(-1).count(16, 0).count(24, 1).count(0, 2).count(0, 3);
            }
        }
    }

    // Promises 1 to 3.

    private static void newCabinet() {
        new Asked().count(0, 0).count(0, 1).count(0, 2).count(0, 3).count(0, 4)
            .look(0, 0, 0).look(0, 0, 1).look(0, 0, 2).look(0, 0, 3)
            .noRod(DIAL, SIZE, 0, 1).noSet(DIAL, 0, 0).noTurn(DIAL, 0, 0).noTake(DIAL, 0, 1, SIZE)
            .noBack(STEP).noOrder(DIAL, 0, 0).dial(0, INT, 0, 0);
        // No rods: what moves moves alone, the first rod is 0.
        new Asked().wide(INT, 2).set(1, 0, -5).values(-5, 0).rod(0, SIZE, 0, 1);
    }

    private static void cabinetsApart() {
        Asked a = new Asked().wide(INT, 2).rod(0, SIZE, 0, 1).set(2, 0, -5).set(-1, 9, 0);
        Asked b = new Asked().count(0, 0).count(0, 1).count(0, 2).count(0, 3).count(0, 4).wide(INT, 2);
        b.set(1, 0, -6).values(-6, 0);
        a.values(-5, 5).count(1, 2).count(2, 3).count(1, 4).back(2);
        b.values(-6, 0).count(1, 2).back(1);
    }

    private static void firstValue() {
        new Asked().dial(0, INT, -5, 5).dial(1, INT, 0, 5).dial(2, INT, -5, 0).dial(3, INT, 1, 5)
            .dial(4, INT, -5, -1).dial(5, INT, LAST_INT, LAST_INT).dial(6, INT, LEAST_INT, LEAST_INT)
            .dial(7, LONG, 1, 5).dial(8, LONG, -5, -1).dial(9, LONG, Long.MAX_VALUE, Long.MAX_VALUE)
            .dial(10, LONG, Long.MIN_VALUE, Long.MIN_VALUE).dial(11, LONG, -5, 5)
            .values(0, 0, 0, 1, -1, LAST_INT, LEAST_INT, 1, -1, Long.MAX_VALUE, Long.MIN_VALUE, 0)
            .count(0, 2).count(0, 3);
    }

    private static void firstValueOfReals() {
        for (int kind = FLOAT; kind <= DOUBLE; kind++) {
            long below = real(kind, -0.0);
            // 0.0 itself, and not -0.0, where both are between the ends.
            new Asked().dial(0, kind, below, 0).dial(1, kind, 0, 0).dial(2, kind, below, below)
                .dial(3, kind, least(kind), below).dial(4, kind, below, last(kind))
                .dial(5, kind, 1, last(kind)).dial(6, kind, least(kind), below + 1)
                .dial(7, kind, last(kind), last(kind)).dial(8, kind, least(kind), least(kind))
                .dial(9, kind, real(kind, 1.5), real(kind, 2))
                .dial(10, kind, real(kind, -2), real(kind, -1.5))
                .values(0, 0, below, below, 0, 1, below + 1, last(kind), least(kind),
                    real(kind, 1.5), real(kind, -1.5))
                .count(0, 2).count(0, 3);
        }
    }

    private static void dialWay() {
        for (int kind : new int[] {-1, 4, 5, Integer.MIN_VALUE, Integer.MAX_VALUE}) {
            new Asked().noDial(WAY, kind, 0, 0).dial(0, DOUBLE, 0, 0).noDial(WAY, kind, 0, 0)
                .dial(1, INT, 0, 0);
        }
    }

    private static void dialFull() {
        new Asked().wide(INT, 15).count(15, 0).dial(15, DOUBLE, 0, 0).count(0, 4)
            .noDial(FULL, INT, 0, 0).noDial(FULL, LONG, 0, 0).noDial(FULL, FLOAT, 0, 0)
            .noDial(FULL, DOUBLE, 0, 0).set(1, 14, 3);
    }

    private static void dialNumber() {
        for (int kind : new int[] {INT, FLOAT, DOUBLE}) {
            long none = kind == INT ? LAST_INT + 1 : kind == FLOAT ? FLOAT_NANS[0] : DOUBLE_NANS[0];
            long noneBelow = kind == INT ? LEAST_INT - 1 : -1;
            new Asked().noDial(NUMBER, kind, none, none).noDial(NUMBER, kind, 0, none)
                .noDial(NUMBER, kind, none, 0).noDial(NUMBER, kind, noneBelow, noneBelow)
                .noDial(NUMBER, kind, 0, noneBelow).noDial(NUMBER, kind, noneBelow, 0)
                .dial(0, kind, least(kind), last(kind));
        }
        new Asked().dial(0, LONG, LEAST_INT - 1, LAST_INT + 1);
    }

    private static void dialEnds() {
        new Asked().noDial(ENDS, INT, 1, 0).noDial(ENDS, INT, LAST_INT, LEAST_INT)
            .dial(0, INT, 1, 1).noDial(ENDS, LONG, -1, -2)
            .noDial(ENDS, LONG, Long.MAX_VALUE, Long.MIN_VALUE).dial(1, LONG, -2, -2);
        for (int kind = FLOAT; kind <= DOUBLE; kind++) {
            long below = real(kind, -0.0);
            new Asked().noDial(ENDS, kind, 0, below).noDial(ENDS, kind, 1, 0)
                .noDial(ENDS, kind, below, below + 1).noDial(ENDS, kind, last(kind), least(kind))
                .noDial(ENDS, kind, real(kind, -1), real(kind, -2))
                .noDial(ENDS, kind, real(kind, 2), real(kind, 1))
                .dial(0, kind, below, 0).dial(1, kind, below, below).dial(2, kind, 0, 0)
                .dial(3, kind, below + 1, below).dial(4, kind, least(kind), least(kind))
                .dial(5, kind, real(kind, -2), real(kind, -1)).dial(6, kind, last(kind), last(kind));
        }
    }

    private static void rodMovesNothing() {
        for (int sort = 0; sort <= 3; sort++) {
            Asked c = new Asked().wide(FLOAT, 3).set(1, 0, f(-9f)).set(1, 1, f(4f));
            c.rod(0, sort, 0, 1).rod(1, sort, 1, 0).rod(2, sort, 1, 2);
            c.values(f(-9f), f(4f), 0).count(2, 2).count(2, 3);
        }
    }

    private static void rodWay() {
        for (int sort : new int[] {-1, 4, 5, Integer.MIN_VALUE, Integer.MAX_VALUE}) {
            new Asked().wide(DOUBLE, 2).noRod(WAY, sort, 0, 1).rod(0, SIZE, 0, 1).noRod(WAY, sort, 1, 0)
                .rod(1, GREATER, 1, 0);
        }
    }

    private static void rodDial() {
        for (int none : new int[] {-1, 2, 15, 16, Integer.MIN_VALUE, Integer.MAX_VALUE}) {
            new Asked().wide(DOUBLE, 2).noRod(DIAL, SIZE, 0, none).noRod(DIAL, SIZE, none, 0)
                .noRod(DIAL, SIZE, none, none).rod(0, SIZE, 1, 0);
        }
    }

    private static void rodUnlike() {
        Asked c = new Asked().wide(INT, 1).wide(LONG, 1).wide(FLOAT, 1).wide(DOUBLE, 1);
        c.noRod(UNLIKE, SIZE, 0, 1).noRod(UNLIKE, SIZE, 1, 0).noRod(UNLIKE, SIZE, 2, 3);
        c.noRod(UNLIKE, SIZE, 3, 2).noRod(UNLIKE, SIZE, 0, 2).noRod(UNLIKE, SIZE, 1, 3);
        c.noRod(UNLIKE, SIZE, 0, 0).noRod(UNLIKE, SIGNED, 3, 3);
    }

    private static void rodSignedOfWhole() {
        new Asked().wide(INT, 2).wide(LONG, 2).wide(FLOAT, 2).wide(DOUBLE, 2)
            .noRod(WAY, SIGNED, 0, 1).noRod(WAY, SIGNED, 3, 2)
            .rod(0, SIGNED, 4, 5).rod(1, SIGNED, 7, 6)
            .rod(2, LESS, 0, 1).rod(3, SIZE, 0, 1).rod(4, LESS, 3, 2).rod(5, SIZE, 3, 2);
    }

    private static void rodFull() {
        Asked c = new Asked().wide(INT, 2).wide(DOUBLE, 2);
        for (int i = 0; i < 23; i++) {
            c.rod(i, SIZE, 0, 1);
        }
        c.count(23, 1).rod(23, SIGNED, 3, 2).count(0, 4).count(24, 1);
        c.noRod(FULL, SIZE, 0, 1).noRod(FULL, SIGNED, 3, 2).noRod(FULL, GREATER, 1, 0);
        c.set(2, 0, -3).set(2, 3, d(-3)).values(-3, 3, d(-0.0), d(-3));
    }

    // Promises 4 to 6.

    private static void setCountsMoves() {
        new Asked().wide(INT, 3).set(0, 0, 0).set(1, 0, 1).rod(0, SIZE, 0, 1).rod(1, SIZE, 1, 2)
            .set(3, 0, 2).set(0, 0, 2).set(1, 0, -2).set(3, 0, 3).count(8, 3);
        // The same dial moves twice in a call: both count.
        new Asked().wide(INT, 2).rod(0, SIZE, 0, 1).rod(1, SIZE, 1, 0).set(3, 0, -4).values(4, 4);
        chainOfAllRods().set(25, 0, -5);
    }

    private static void setDial() {
        for (int none : new int[] {-1, 1, 15, 16, Integer.MIN_VALUE, Integer.MAX_VALUE}) {
            new Asked().wide(LONG, 1).noSet(DIAL, none, 5).set(1, 0, 5).noSet(DIAL, none, 6);
        }
        new Asked().wide(LONG, 16).noSet(DIAL, 16, 5).noSet(DIAL, -1, 5).set(1, 15, 5);
    }

    private static void setNumber() {
        new Asked().wide(INT, 1).wide(LONG, 1).wide(FLOAT, 1).wide(DOUBLE, 1)
            .noSet(NUMBER, 0, LAST_INT + 1).noSet(NUMBER, 0, LEAST_INT - 1)
            .noSet(NUMBER, 2, LAST_INT + 1).noSet(NUMBER, 2, LEAST_INT - 1)
            .noSet(NUMBER, 2, FLOAT_NANS[0]).noSet(NUMBER, 2, FLOAT_NANS[3])
            .noSet(NUMBER, 3, DOUBLE_NANS[0]).noSet(NUMBER, 3, DOUBLE_NANS[3])
            .set(1, 1, LAST_INT + 1).set(1, 1, LEAST_INT - 1);
        // None of the KIND is refused, not FITTED.
        new Asked().dial(0, INT, 0, 5).noSet(NUMBER, 0, Long.MAX_VALUE).set(1, 0, LAST_INT).values(5);
    }

    private static void turns(int kind, int way, double from, double to) {
        turnsBits(kind, way, real(kind, from), real(kind, to));
    }

    private static void turnsBits(int kind, int way, long from, long to) {
        new Asked().wide(kind, 1).put(0, from).turn(from == to ? 0 : 1, 0, way).values(to);
    }

    private static void turnsOfReals(int way, double from, double to) {
        turns(FLOAT, way, from, to);
        turns(DOUBLE, way, from, to);
    }

    private static void turnSize() {
        turnsBits(INT, 0, -7, 7);
        turnsBits(INT, 0, 7, 7);
        turnsBits(INT, 0, 0, 0);
        turnsBits(INT, 0, -1, 1);
        turnsBits(INT, 0, LEAST_INT + 1, LAST_INT);
        turnsBits(LONG, 0, LEAST_INT, LAST_INT + 1);
        turnsBits(LONG, 0, Long.MIN_VALUE + 1, Long.MAX_VALUE);
        turnsBits(LONG, 0, Long.MAX_VALUE, Long.MAX_VALUE);
        turnsOfReals(0, -0.0, 0.0);
        turnsOfReals(0, 0.0, 0.0);
        turnsOfReals(0, -2.5, 2.5);
        turnsOfReals(0, 2.5, 2.5);
        turnsOfReals(0, -Float.MIN_VALUE, Float.MIN_VALUE);
        turnsOfReals(0, Double.NEGATIVE_INFINITY, Double.POSITIVE_INFINITY);
        turns(DOUBLE, 0, -Double.MIN_VALUE, Double.MIN_VALUE);
        turns(DOUBLE, 0, -Double.MAX_VALUE, Double.MAX_VALUE);
    }

    private static void turnSizeOfLeast() {
        turnsBits(INT, 0, LEAST_INT, LEAST_INT);
        turnsBits(LONG, 0, Long.MIN_VALUE, Long.MIN_VALUE);
        // No move: no step, no rods.
        new Asked().wide(INT, 2).set(1, 0, LEAST_INT).rod(0, SIZE, 0, 1).turn(0, 0, 0)
            .values(LEAST_INT, 0).count(1, 2).count(1, 3).count(0, 4);
        new Asked().wide(LONG, 2).set(1, 0, Long.MIN_VALUE).rod(0, SIZE, 0, 1).turn(0, 0, 0)
            .values(Long.MIN_VALUE, 0).count(1, 2).count(1, 3).count(0, 4);
    }

    private static void turnDown() {
        turnsOfReals(DOWN, 0.5, 0.0);
        turnsOfReals(DOWN, 1.5, 1);
        turnsOfReals(DOWN, 2.75, 2);
        turnsOfReals(DOWN, -0.5, -1);
        turnsOfReals(DOWN, -0.25, -1);
        turnsOfReals(DOWN, -1.5, -2);
        turnsOfReals(DOWN, -3.75, -4);
        turnsOfReals(DOWN, -7.25, -8);
        turnsOfReals(DOWN, Float.MIN_VALUE, 0.0);
        turnsOfReals(DOWN, -Float.MIN_VALUE, -1);
        turns(FLOAT, DOWN, Math.nextDown(1f), 0.0);
        turns(FLOAT, DOWN, Math.nextUp(1f), 1);
        turns(FLOAT, DOWN, Math.nextDown(-1f), -2);
        turns(FLOAT, DOWN, Math.nextUp(-1f), -1);
        turns(DOUBLE, DOWN, Math.nextDown(1.0), 0.0);
        turns(DOUBLE, DOWN, Math.nextUp(1.0), 1);
        turns(DOUBLE, DOWN, Math.nextDown(-1.0), -2);
        turns(DOUBLE, DOWN, Math.nextUp(-1.0), -1);
        turns(DOUBLE, DOWN, -Double.MIN_VALUE, -1);
    }

    private static void turnUp() {
        turnsOfReals(UP, 0.5, 1);
        turnsOfReals(UP, 0.25, 1);
        turnsOfReals(UP, 1.5, 2);
        turnsOfReals(UP, 3.25, 4);
        turnsOfReals(UP, 7.75, 8);
        turnsOfReals(UP, -1.5, -1);
        turnsOfReals(UP, -2.25, -2);
        turnsOfReals(UP, Float.MIN_VALUE, 1);
        turnsOfReals(UP, -Float.MIN_VALUE, -0.0);
        turns(FLOAT, UP, Math.nextDown(1f), 1);
        turns(FLOAT, UP, Math.nextUp(1f), 2);
        turns(FLOAT, UP, Math.nextDown(-1f), -1);
        turns(FLOAT, UP, Math.nextUp(-1f), -0.0);
        turns(DOUBLE, UP, Math.nextDown(1.0), 1);
        turns(DOUBLE, UP, Math.nextUp(1.0), 2);
        turns(DOUBLE, UP, Math.nextDown(-1.0), -1);
        turns(DOUBLE, UP, Math.nextUp(-1.0), -0.0);
        turns(DOUBLE, UP, Double.MIN_VALUE, 1);
    }

    private static void turnNearest() {
        for (int sign = -1; sign <= 1; sign += 2) {
            turnsOfReals(NEAREST, sign * 0.25, sign * 0.0);
            turnsOfReals(NEAREST, sign * 0.75, sign);
            turnsOfReals(NEAREST, sign * 1.25, sign);
            turnsOfReals(NEAREST, sign * 1.75, sign * 2);
            turnsOfReals(NEAREST, sign * 7.75, sign * 8);
            turnsOfReals(NEAREST, sign * Float.MIN_VALUE, sign * 0.0);
            turns(FLOAT, NEAREST, sign * Math.nextDown(0.5f), sign * 0.0);
            turns(FLOAT, NEAREST, sign * Math.nextUp(0.5f), sign);
            turns(FLOAT, NEAREST, sign * Math.nextDown(1.5f), sign);
            turns(FLOAT, NEAREST, sign * Math.nextUp(2.5f), sign * 3);
            turns(FLOAT, NEAREST, sign * Math.nextDown(1f), sign);
            turns(DOUBLE, NEAREST, sign * Math.nextDown(0.5), sign * 0.0);
            turns(DOUBLE, NEAREST, sign * Math.nextUp(0.5), sign);
            turns(DOUBLE, NEAREST, sign * Math.nextDown(1.5), sign);
            turns(DOUBLE, NEAREST, sign * Math.nextUp(2.5), sign * 3);
            turns(DOUBLE, NEAREST, sign * Math.nextDown(1.0), sign);
            turns(DOUBLE, NEAREST, sign * Double.MIN_VALUE, sign * 0.0);
        }
    }

    private static void turnNearestOfTwo() {
        for (int sign = -1; sign <= 1; sign += 2) {
            turnsOfReals(NEAREST, sign * 0.5, sign * 0.0);
            turnsOfReals(NEAREST, sign * 1.5, sign * 2);
            turnsOfReals(NEAREST, sign * 2.5, sign * 2);
            turnsOfReals(NEAREST, sign * 3.5, sign * 4);
            turnsOfReals(NEAREST, sign * 4.5, sign * 4);
            turnsOfReals(NEAREST, sign * 5.5, sign * 6);
            turnsOfReals(NEAREST, sign * 6.5, sign * 6);
            turnsOfReals(NEAREST, sign * 7.5, sign * 8);
            turnsOfReals(NEAREST, sign * 1023.5, sign * 1024);
            turnsOfReals(NEAREST, sign * 1024.5, sign * 1024);
        }
    }

    private static void turnWholeOnes() {
        double[] whole = {1, 2, 3, 4, 8388607, 8388608, 8388609, 16777216, 1e10f, Float.MAX_VALUE,
            Double.POSITIVE_INFINITY};
        double[] wide = {4503599627370495.0, 4503599627370496.0, 4503599627370497.0,
            9007199254740991.0, 9007199254740993.0, 1e300, Double.MAX_VALUE};
        for (int way = DOWN; way <= NEAREST; way++) {
            for (double number : whole) {
                turnsOfReals(way, number, number);
                turnsOfReals(way, -number, -number);
            }
            for (double number : wide) {
                turns(DOUBLE, way, number, number);
                turns(DOUBLE, way, -number, -number);
            }
        }
    }

    private static void turnLargestFractions() {
        // Above 2^23 (of FLOAT) and 2^52 (of DOUBLE) there are only whole numbers.
        turns(FLOAT, DOWN, 8388607.5, 8388607);
        turns(FLOAT, UP, 8388607.5, 8388608);
        turns(FLOAT, NEAREST, 8388607.5, 8388608);
        turns(FLOAT, NEAREST, 8388606.5, 8388606);
        turns(FLOAT, DOWN, -8388607.5, -8388608);
        turns(FLOAT, UP, -8388607.5, -8388607);
        turns(FLOAT, NEAREST, -8388607.5, -8388608);
        turns(FLOAT, NEAREST, 4194303.75, 4194304);
        turns(FLOAT, NEAREST, 4194303.25, 4194303);
        turns(DOUBLE, DOWN, 4503599627370495.5, 4503599627370495.0);
        turns(DOUBLE, UP, 4503599627370495.5, 4503599627370496.0);
        turns(DOUBLE, NEAREST, 4503599627370495.5, 4503599627370496.0);
        turns(DOUBLE, NEAREST, 4503599627370494.5, 4503599627370494.0);
        turns(DOUBLE, DOWN, -4503599627370495.5, -4503599627370496.0);
        turns(DOUBLE, UP, -4503599627370495.5, -4503599627370495.0);
        turns(DOUBLE, NEAREST, -4503599627370495.5, -4503599627370496.0);
        turns(DOUBLE, NEAREST, 2251799813685247.75, 2251799813685248.0);
        turns(DOUBLE, NEAREST, 2251799813685247.25, 2251799813685247.0);
        // What has a fraction as a DOUBLE alone is turned as such.
        turns(DOUBLE, DOWN, 8388608.5, 8388608);
        turns(DOUBLE, UP, 8388608.5, 8388609);
        turns(DOUBLE, NEAREST, 8388609.5, 8388610);
    }

    private static void turnSign() {
        for (int sign = -1; sign <= 1; sign += 2) {
            turnsOfReals(SIGN, sign * 7.5, sign);
            turnsOfReals(SIGN, sign, sign);
            turnsOfReals(SIGN, sign * 0.25, sign);
            turnsOfReals(SIGN, sign * Float.MIN_VALUE, sign);
            turnsOfReals(SIGN, sign * Float.MAX_VALUE, sign);
            turnsOfReals(SIGN, sign * Double.POSITIVE_INFINITY, sign);
            turns(DOUBLE, SIGN, sign * Double.MIN_VALUE, sign);
            turns(DOUBLE, SIGN, sign * Double.MAX_VALUE, sign);
        }
    }

    private static void turnSignOfZero() {
        turnsOfReals(SIGN, 0.0, 0.0);
        turnsOfReals(SIGN, -0.0, -0.0);
    }

    private static void turnToZero() {
        for (int way = DOWN; way <= NEAREST; way++) {
            turnsOfReals(way, 0.0, 0.0);
            turnsOfReals(way, -0.0, -0.0);
        }
        turnsOfReals(DOWN, 0.75, 0.0);
        turnsOfReals(UP, -0.75, -0.0);
        turnsOfReals(NEAREST, 0.5, 0.0);
        turnsOfReals(NEAREST, -0.5, -0.0);
        turnsOfReals(NEAREST, 0.25, 0.0);
        turnsOfReals(NEAREST, -0.25, -0.0);
    }

    private static void turnGets() {
        new Asked().dial(0, INT, -10, 4).set(1, 0, -9).turn(1, 0, 0).values(4);
        new Asked().dial(0, DOUBLE, d(0.25), d(0.75)).turn(1, 0, UP).values(d(0.75))
            .turn(0, 0, SIGN).turn(1, 0, DOWN).values(d(0.25)).turn(0, 0, NEAREST).turn(0, 0, 0);
        // -0.0 is HIGH: its size 0.0 is above it.
        new Asked().dial(0, DOUBLE, d(-9), d(-0.0)).turn(0, 0, 0).values(d(-0.0));
        new Asked().wide(FLOAT, 2).rod(0, SIGNED, 0, 1).set(1, 1, f(3f)).set(2, 0, f(-1.5f))
            .turn(1, 0, UP).turn(2, 0, 0).values(f(1f), f(3f)).back(2).values(f(-1f), f(-3f))
            .back(1).values(f(-1.5f), f(-3f));
    }

    private static void turnDial() {
        for (int none : new int[] {-1, 1, 15, 16, Integer.MIN_VALUE, Integer.MAX_VALUE}) {
            new Asked().wide(DOUBLE, 1).noTurn(DIAL, none, 0).noTurn(DIAL, none, SIGN);
        }
    }

    private static void turnWay() {
        for (int kind = 0; kind <= 3; kind++) {
            Asked c = new Asked().wide(kind, 1).put(0, kind < 2 ? -7 : real(kind, -7.5));
            for (int none : new int[] {-1, 5, 6, Integer.MIN_VALUE, Integer.MAX_VALUE}) {
                c.noTurn(WAY, 0, none);
            }
            for (int way = 4; way >= 1; way--) {
                if (kind < 2) {
                    c.noTurn(WAY, 0, way);
                } else {
                    c.turn(way == SIGN ? 1 : 0, 0, way);
                }
            }
            c.turn(1, 0, 0);
        }
    }

    private static void takes(int kind, int sort, long ofD, long ofE, long taken) {
        new Asked().wide(kind, 2).put(0, ofD).put(1, ofE)
            .take(taken == ofD ? 0 : 1, 0, 1, sort).values(taken, ofE).count(0, 1);
    }

    private static void takeGives() {
        takes(INT, GREATER, -3, 4, 4);
        takes(INT, GREATER, 4, -3, 4);
        takes(INT, LESS, 4, -3, -3);
        takes(INT, LESS, -3, 4, -3);
        takes(INT, SIZE, 2, -3, 3);
        takes(INT, SIZE, 2, LEAST_INT, LEAST_INT);
        takes(LONG, SIZE, 2, Long.MIN_VALUE, Long.MIN_VALUE);
        takes(LONG, SIZE, -5, LEAST_INT, LAST_INT + 1);
        for (int kind = FLOAT; kind <= DOUBLE; kind++) {
            long below = real(kind, -0.0);
            takes(kind, GREATER, below, 0, 0);
            takes(kind, GREATER, 0, below, 0);
            takes(kind, LESS, 0, below, below);
            takes(kind, LESS, below, 0, below);
            takes(kind, SIGNED, real(kind, 2.5), real(kind, -7), real(kind, -2.5));
            takes(kind, SIGNED, real(kind, -2.5), real(kind, 7), real(kind, 2.5));
            takes(kind, SIGNED, real(kind, 2.5), below, real(kind, -2.5));
            takes(kind, SIGNED, below, real(kind, 7), 0);
            takes(kind, SIGNED, last(kind), least(kind), least(kind));
            takes(kind, SIZE, real(kind, 2.5), real(kind, -7), real(kind, 7));
            takes(kind, SIZE, real(kind, 2.5), below, 0);
        }
    }

    private static void takeGets() {
        new Asked().wide(INT, 1).dial(1, INT, -4, 4).set(1, 0, -9)
            .take(1, 1, 0, SIZE).values(-9, 4).take(0, 1, 0, SIZE)
            .take(1, 1, 0, LESS).values(-9, -4).take(0, 1, 0, LESS).count(3, 2);
        // Rods begin at d: that of e is not gone along, though e gives.
        new Asked().wide(INT, 4).set(1, 0, -9).rod(0, SIZE, 1, 2).rod(1, SIZE, 0, 3)
            .take(2, 1, 0, LESS).values(-9, -9, 9, 0).back(2).values(-9, 0, 0, 0);
        // d may come round to e by its rods.
        new Asked().wide(INT, 2).set(1, 0, -9).rod(0, SIZE, 1, 0).take(2, 1, 0, LESS).values(9, -9);
    }

    private static void takeDial() {
        for (int none : new int[] {-1, 2, 15, 16, Integer.MIN_VALUE, Integer.MAX_VALUE}) {
            new Asked().wide(DOUBLE, 2).noTake(DIAL, none, 0, SIZE).noTake(DIAL, 0, none, SIZE)
                .noTake(DIAL, none, none, SIZE);
        }
    }

    private static void takeWay() {
        for (int none : new int[] {-1, 4, 5, Integer.MIN_VALUE, Integer.MAX_VALUE}) {
            new Asked().wide(DOUBLE, 2).set(1, 1, d(-3)).noTake(WAY, 0, 1, none).take(1, 0, 1, SIZE);
        }
    }

    private static void takeUnlike() {
        Asked c = new Asked().wide(INT, 1).wide(LONG, 1).wide(FLOAT, 1).wide(DOUBLE, 1);
        for (int i = 0; i < 4; i++) {
            c.noTake(UNLIKE, i, i, SIZE).noTake(UNLIKE, i, (i + 1) % 4, SIZE)
                .noTake(UNLIKE, i, (i + 2) % 4, GREATER).noTake(UNLIKE, i, (i + 3) % 4, LESS);
        }
    }

    private static void takeSignedOfWhole() {
        new Asked().wide(INT, 2).wide(LONG, 2).wide(FLOAT, 2).wide(DOUBLE, 2)
            .set(1, 0, -3).set(1, 2, -3).set(1, 4, f(-3f)).set(1, 6, d(-3))
            .noTake(WAY, 1, 0, SIGNED).noTake(WAY, 3, 2, SIGNED)
            .take(1, 5, 4, SIGNED).take(1, 7, 6, SIGNED).look(f(-0f), 5, 0).look(d(-0.0), 7, 0);
    }

    // Promises 7 to 10.

    private static void backRestoresAll() {
        Asked c = new Asked().wide(INT, 1).wide(LONG, 2).wide(FLOAT, 1).wide(DOUBLE, 2);
        c.rod(0, SIZE, 1, 2).rod(1, SIGNED, 4, 5);
        c.set(1, 0, LEAST_INT).set(2, 1, 5).values(LEAST_INT, 5, 5);
        c.back(2).back(1).values(0, 0, 0, 0, 0, 0);
        c.set(1, 0, LAST_INT).set(2, 1, Long.MIN_VALUE).set(1, 3, F_NEGATIVE).set(2, 4, d(-0.0));
        c.values(LAST_INT, Long.MIN_VALUE, Long.MIN_VALUE, F_NEGATIVE, d(-0.0), d(-0.0));
        c.back(2).values(LAST_INT, Long.MIN_VALUE, Long.MIN_VALUE, F_NEGATIVE, 0, 0);
        c.back(1).values(LAST_INT, Long.MIN_VALUE, Long.MIN_VALUE, 0, 0, 0);
        c.back(2).values(LAST_INT, 0, 0, 0, 0, 0).back(1).values(0, 0, 0, 0, 0, 0);
    }

    private static void backGoesAlongNoRods() {
        // The rod came after the step: taking 0 back from -7 to -3 leaves 1 alone.
        new Asked().wide(INT, 2).set(1, 0, -3).set(1, 0, -7).rod(0, SIZE, 0, 1)
            .back(1).values(-3, 0).count(2, 3).count(1, 2).count(0, 4);
    }

    private static void backLeavesNewDials() {
        Asked c = new Asked().wide(INT, 1).set(1, 0, 5).dial(1, INT, 2, 9).back(1).values(0, 2);
        c.set(1, 0, 6).dial(2, INT, 4, 9).set(1, 2, 8).back(1).values(6, 2, 4);
        c.back(1).values(0, 2, 4).count(3, 0).count(0, 2);
        // One that came since and moved, in a step that is not the one taken back, is none.
        c.dial(3, INT, -9, -7).set(1, 0, 1).dial(4, INT, -9, -8).back(1).values(0, 2, 4, -7, -8);
        // One that came ahead of the step is taken back as all others are.
        c.set(1, 4, -9).back(1).values(0, 2, 4, -7, -8);
        // The sixteenth, behind a step of fifteen.
        Asked e = new Asked().wide(LONG, 15).set(1, 14, 3).dial(15, LONG, 7, 7).back(1);
        e.look(0, 14, 0).look(7, 15, 0);
    }

    private static void backCountsOthers() {
        Asked c = new Asked().wide(INT, 3).rod(0, SIZE, 0, 1).rod(1, SIZE, 1, 2);
        c.set(3, 0, -5).back(3).set(3, 0, -5).set(1, 0, 5).back(1).values(-5, 5, 5).back(3);
        // Moves there and back in one call: 3 moves, one other value.
        new Asked().wide(INT, 1).dial(1, INT, -9, 9).set(1, 0, 3).rod(0, SIZE, 0, 1)
            .rod(1, SIZE, 1, 0).set(3, 0, -3).values(3, 3).back(1).values(3, 0);
        chainOfAllRods().set(25, 0, -5).back(16);
    }

    private static void backOfNoOthers() {
        // 0 to -3, 1 to -4, 0 to 3 (of 4, its high end), 1 to 4: four moves, and all as it was.
        new Asked().dial(0, FLOAT, f(-3f), f(3f)).wide(FLOAT, 1).set(1, 0, f(3f)).set(1, 1, f(4f))
            .rod(0, SIGNED, 0, 1).rod(1, SIZE, 1, 0).rod(2, SIGNED, 0, 1)
            .set(4, 0, f(-3f)).values(f(3f), f(4f)).count(3, 2).count(6, 3)
            .back(0).count(0, 4).count(2, 2).values(f(3f), f(4f))
            .back(1).values(f(3f), 0).count(1, 2);
    }

    private static void backOfZeros() {
        for (int kind = FLOAT; kind <= DOUBLE; kind++) {
            long below = real(kind, -0.0);
            new Asked().wide(kind, 1).set(1, 0, below).set(1, 0, 0).back(1).values(below)
                .back(1).values(0).noBack(STEP);
        }
    }

    private static void backStep() {
        new Asked().noBack(STEP).wide(INT, 1).noBack(STEP).set(0, 0, 0).noBack(STEP)
            .set(1, 0, 1).back(1).noBack(STEP).noBack(STEP).set(1, 0, 2).count(1, 2).back(1);
    }

    private static void orderAnswers() {
        Asked c = new Asked().wide(INT, 2).wide(LONG, 2).wide(FLOAT, 2).wide(DOUBLE, 2);
        c.set(1, 0, LEAST_INT).set(1, 1, LAST_INT).set(1, 2, Long.MIN_VALUE).set(1, 3, Long.MAX_VALUE);
        c.set(1, 4, F_NEGATIVE).set(1, 5, F_INFINITY).set(1, 6, D_NEGATIVE).set(1, 7, D_INFINITY);
        for (int d = 0; d < 8; d += 2) {
            // Exactly -1 and 1, however far apart they are.
            c.order(-1, d, d + 1).order(1, d + 1, d).count(0, 4);
        }
        c.set(1, 0, LAST_INT).order(0, 0, 1).set(1, 2, Long.MAX_VALUE).order(0, 2, 3);
        c.set(1, 4, F_INFINITY).order(0, 4, 5).set(1, 6, D_INFINITY).order(0, 6, 7).count(0, 4);
    }

    private static void orderDial() {
        for (int none : new int[] {-1, 2, 15, 16, Integer.MIN_VALUE, Integer.MAX_VALUE}) {
            new Asked().wide(DOUBLE, 2).noOrder(DIAL, none, 0).noOrder(DIAL, 0, none)
                .noOrder(DIAL, none, none).order(0, 0, 1);
        }
        new Asked().noOrder(DIAL, 0, 0);
    }

    private static void orderUnlike() {
        Asked c = new Asked().wide(INT, 1).wide(LONG, 1).wide(FLOAT, 1).wide(DOUBLE, 1);
        for (int i = 0; i < 4; i++) {
            c.noOrder(UNLIKE, i, (i + 1) % 4).noOrder(UNLIKE, i, (i + 2) % 4).noOrder(UNLIKE, i, (i + 3) % 4);
        }
    }

    private static void orderOfOneTwice() {
        Asked c = new Asked().wide(INT, 1).wide(LONG, 1).wide(FLOAT, 1).wide(DOUBLE, 1);
        c.set(1, 3, d(-0.0)).set(1, 2, F_NEGATIVE);
        for (int i = 0; i < 4; i++) {
            c.order(-2, 9, 9).order(0, i, i).count(0, 4);
        }
    }

    private static void lookAnswers() {
        new Asked().dial(0, INT, -7, -2).dial(1, LONG, Long.MIN_VALUE, Long.MAX_VALUE)
            .dial(2, FLOAT, f(-0f), F_INFINITY).dial(3, DOUBLE, d(-1.5), d(-0.0)).set(1, 1, 5)
            .look(-2, 0, 0).look(-7, 0, 1).look(-2, 0, 2).look(0, 0, 3)
            .look(5, 1, 0).look(Long.MIN_VALUE, 1, 1).look(Long.MAX_VALUE, 1, 2).look(1, 1, 3)
            .look(0, 2, 0).look(-2147483648L, 2, 1).look(2139095040L, 2, 2).look(2, 2, 3)
            .look(Long.MIN_VALUE, 3, 0).look(d(-1.5), 3, 1).look(Long.MIN_VALUE, 3, 2).look(3, 3, 3)
            .count(1, 2).count(1, 3).count(0, 4);
    }

    private static void lookNoDial() {
        Asked c = new Asked().dial(0, DOUBLE, d(1), d(2));
        for (int none : new int[] {-1, 1, 2, 15, 16, Integer.MIN_VALUE, Integer.MAX_VALUE}) {
            c.look(0, none, 0).look(0, none, 1).look(0, none, 2).look(0, none, 3);
        }
        Asked full = new Asked();
        for (int i = 0; i < 16; i++) {
            full.dial(i, LONG, 5, 6);
        }
        full.look(5, 15, 0).look(0, 16, 0).look(0, -1, 0).look(6, 15, 2).look(0, 16, 2);
    }

    private static void lookNoWhat() {
        Asked c = new Asked().dial(0, DOUBLE, d(1), d(2)).set(-1, 9, 0);
        for (int none : new int[] {-1, 4, 5, Integer.MIN_VALUE, Integer.MAX_VALUE}) {
            c.look(0, 0, none);
        }
        c.count(DIAL, 4);
    }

    private static void countDialsAndRods() {
        Asked c = new Asked().count(0, 0).count(0, 1);
        for (int i = 1; i <= 16; i++) {
            c.wide(INT, 1).count(i, 0).count(0, 1);
        }
        for (int i = 1; i <= 24; i++) {
            c.rod(i - 1, SIZE, 0, 15).count(16, 0).count(i, 1);
        }
        c.dial(-1, INT, 0, 0).rod(-1, SIZE, 0, 1).count(16, 0).count(24, 1);
        c.set(2, 0, -5).back(2).count(16, 0).count(24, 1);
    }

    private static void countSteps() {
        Asked c = new Asked().count(0, 2).wide(INT, 1).count(0, 2);
        int[] due = {1, 2, 3, 4, 5, 6, 6, 6};
        for (int i = 0; i < due.length; i++) {
            c.set(1, 0, i + 1).count(due[i], 2);
        }
        for (int i = 5; i >= 0; i--) {
            c.back(1).count(i, 2);
        }
        c.back(-1).count(0, 2).set(1, 0, 99).count(1, 2);
    }

    private static void countMoves() {
        Asked c = new Asked().count(0, 3).wide(INT, 2).rod(0, SIZE, 0, 1).count(0, 3);
        c.set(2, 0, -5).count(2, 3).set(0, 0, -5).count(2, 3).turn(1, 0, 0).count(3, 3);
        c.back(1).count(3, 3).back(2).count(3, 3).back(-1).count(3, 3);
        c.take(0, 1, 0, SIZE).count(3, 3).set(1, 1, 7).count(4, 3).take(1, 0, 1, SIZE).count(5, 3);
        // Pushed out steps have been moves all the same.
        for (int i = 1; i <= 8; i++) {
            c.set(2, 0, -i).count(5 + 2 * i, 3);
        }
        c.count(6, 2);
    }

    private static void countFault() {
        Asked c = new Asked().wide(INT, 2).wide(LONG, 1);
        c.dial(-1, 4, 0, 0).count(WAY, 4).dial(-1, INT, 1, 0).count(ENDS, 4);
        c.dial(-1, INT, 0, LAST_INT + 1).count(NUMBER, 4).rod(-1, 0, 0, 2).count(UNLIKE, 4);
        c.set(-1, 3, 0).count(DIAL, 4).turn(-1, 0, 1).count(WAY, 4).take(-1, 0, 3, 0).count(DIAL, 4);
        c.back(-1).count(STEP, 4).order(-2, 0, 2).count(UNLIKE, 4).order(-2, 0, 3).count(DIAL, 4);
        // look() and count() themselves have none, and leave it as it is.
        c.look(0, 9, 9).look(0, 0, 0).count(-1, 9).count(3, 0).count(DIAL, 4).count(DIAL, 4);
        c.wide(INT, 13).dial(-1, INT, 0, 0).count(FULL, 4);
    }

    private static void countNoFault() {
        Asked c = new Asked().wide(DOUBLE, 2);
        c.set(-1, 9, 0).count(DIAL, 4).dial(2, INT, 0, 0).count(0, 4);
        c.set(-1, 9, 0).count(DIAL, 4).rod(0, SIZE, 0, 1).count(0, 4);
        c.set(-1, 9, 0).count(DIAL, 4).set(2, 0, d(-2.5)).count(0, 4);
        c.set(-1, 9, 0).count(DIAL, 4).set(0, 0, d(-2.5)).count(0, 4);
        c.set(-1, 9, 0).count(DIAL, 4).turn(2, 0, DOWN).count(0, 4);
        c.set(-1, 9, 0).count(DIAL, 4).turn(0, 0, DOWN).count(0, 4);
        c.set(-1, 9, 0).count(DIAL, 4).take(1, 1, 0, LESS).count(0, 4);
        c.set(-1, 9, 0).count(DIAL, 4).take(0, 1, 0, LESS).count(0, 4);
        c.set(-1, 9, 0).count(DIAL, 4).back(1).count(0, 4);
        c.set(-1, 9, 0).count(DIAL, 4).order(-1, 0, 1).count(0, 4);
        c.set(-1, 9, 0).count(DIAL, 4).order(0, 0, 0).count(0, 4);
    }

    private static void countFaultBeforeAny() {
        new Asked().count(0, 4).look(0, 0, 0).count(-1, 5).count(0, 4);
    }

    private static void countNoWhat() {
        Asked c = new Asked().wide(INT, 1).set(-1, 9, 0);
        for (int none : new int[] {-1, 5, 6, Integer.MIN_VALUE, Integer.MAX_VALUE}) {
            c.count(-1, none);
        }
        c.count(DIAL, 4);
    }
}
