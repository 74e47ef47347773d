/**
 * A cabinet of dials of four kinds, each between two ends, linked by rods:
 * set, turned, taken by one another, taken back.
 */
public final class DetentCabinet {
    public static final int NONE = -1;

    private static final int NO_ORDER = -2;

    private static final int MOST_DIALS = 16;
    private static final int MOST_RODS = 24;
    private static final int MOST_STEPS = 6;

    private static final int KIND_INT = 0;
    private static final int KIND_LONG = 1;
    private static final int KIND_FLOAT = 2;
    private static final int KIND_DOUBLE = 3;

    private static final int SORT_GREATER = 0;
    private static final int SORT_LESS = 1;
    private static final int SORT_SIGNED = 2;
    private static final int SORT_SIZE = 3;

    private static final int WAY_SIZE = 0;
    private static final int WAY_DOWN = 1;
    private static final int WAY_UP = 2;
    private static final int WAY_SIGN = 4;

    private static final int FAULT_NONE = 0;
    private static final int FAULT_DIAL = 1;
    private static final int FAULT_WAY = 2;
    private static final int FAULT_NUMBER = 3;
    private static final int FAULT_ENDS = 4;
    private static final int FAULT_FULL = 5;
    private static final int FAULT_UNLIKE = 6;
    private static final int FAULT_STEP = 7;

    private final int[] kinds;
    private final long[] lows;
    private final long[] highs;
    private final long[] values;
    private int dialCount;

    private final int[] rodSorts;
    private final int[] rodFroms;
    private final int[] rodTos;
    private final boolean[] rodGone;
    private int rodCount;

    private final Steps steps;
    private int movesOfCall;
    private int movesInAll;
    private int fault;

    public DetentCabinet() {
        kinds = new int[MOST_DIALS];
        lows = new long[MOST_DIALS];
        highs = new long[MOST_DIALS];
        values = new long[MOST_DIALS];
        rodSorts = new int[MOST_RODS];
        rodFroms = new int[MOST_RODS];
        rodTos = new int[MOST_RODS];
        rodGone = new boolean[MOST_RODS];
        steps = new Steps();
    }

    public int dial(int kind, long low, long high) {
        fault = faultOfDial(kind, low, high);
        if (fault != FAULT_NONE) {
            return NONE;
        }
        int d = dialCount;
        kinds[d] = kind;
        lows[d] = low;
        highs[d] = high;
        // The bits of 0.0 are those of 0, so one zero serves all kinds.
        values[d] = Numbers.fitted(kind, low, high, 0L);
        dialCount++;
        return d;
    }

    public int rod(int sort, int from, int to) {
        fault = faultOfRod(sort, from, to);
        if (fault != FAULT_NONE) {
            return NONE;
        }
        int r = rodCount;
        rodSorts[r] = sort;
        rodFroms[r] = from;
        rodTos[r] = to;
        rodCount++;
        return r;
    }

    public int set(int d, long v) {
        fault = faultOfSet(d, v);
        if (fault != FAULT_NONE) {
            return NONE;
        }
        return movesWhenGiven(d, v);
    }

    public int turn(int d, int way) {
        fault = faultOfTurn(d, way);
        if (fault != FAULT_NONE) {
            return NONE;
        }
        return movesWhenGiven(d, Numbers.turned(kinds[d], values[d], way));
    }

    public int take(int d, int e, int sort) {
        fault = faultOfTake(d, e, sort);
        if (fault != FAULT_NONE) {
            return NONE;
        }
        return movesWhenGiven(d, gift(sort, e, d));
    }

    public int back() {
        fault = steps.held() == 0 ? FAULT_STEP : FAULT_NONE;
        if (fault != FAULT_NONE) {
            return NONE;
        }
        return steps.restoreLatest(values);
    }

    public int order(int d, int e) {
        fault = faultOfOrder(d, e);
        if (fault != FAULT_NONE) {
            return NO_ORDER;
        }
        return Numbers.compared(kinds[d], values[d], values[e]);
    }

    public long look(int d, int what) {
        if (!isDial(d)) {
            return 0L;
        }
        switch (what) {
            case 0:
                return values[d];
            case 1:
                return lows[d];
            case 2:
                return highs[d];
            case 3:
                return kinds[d];
            default:
                return 0L;
        }
    }

    public int count(int what) {
        switch (what) {
            case 0:
                return dialCount;
            case 1:
                return rodCount;
            case 2:
                return steps.held();
            case 3:
                return movesInAll;
            case 4:
                return fault;
            default:
                return NONE;
        }
    }

    // The checks of each call stand in the order in which the document tells its faults.

    private int faultOfDial(int kind, long low, long high) {
        if (kind < KIND_INT || kind > KIND_DOUBLE) {
            return FAULT_WAY;
        }
        if (dialCount >= MOST_DIALS) {
            return FAULT_FULL;
        }
        if (!Numbers.isOfKind(kind, low) || !Numbers.isOfKind(kind, high)) {
            return FAULT_NUMBER;
        }
        return Numbers.compared(kind, low, high) > 0 ? FAULT_ENDS : FAULT_NONE;
    }

    private int faultOfRod(int sort, int from, int to) {
        if (!isSort(sort)) {
            return FAULT_WAY;
        }
        if (!isDial(from) || !isDial(to)) {
            return FAULT_DIAL;
        }
        int ofPair = faultOfPair(sort, from, to);
        if (ofPair != FAULT_NONE) {
            return ofPair;
        }
        return rodCount >= MOST_RODS ? FAULT_FULL : FAULT_NONE;
    }

    private int faultOfSet(int d, long v) {
        if (!isDial(d)) {
            return FAULT_DIAL;
        }
        return Numbers.isOfKind(kinds[d], v) ? FAULT_NONE : FAULT_NUMBER;
    }

    private int faultOfTurn(int d, int way) {
        if (!isDial(d)) {
            return FAULT_DIAL;
        }
        int lastWay = Numbers.isReal(kinds[d]) ? WAY_SIGN : WAY_SIZE;
        return way < WAY_SIZE || way > lastWay ? FAULT_WAY : FAULT_NONE;
    }

    private int faultOfTake(int d, int e, int sort) {
        if (!isDial(d) || !isDial(e)) {
            return FAULT_DIAL;
        }
        if (!isSort(sort)) {
            return FAULT_WAY;
        }
        return faultOfPair(sort, e, d);
    }

    private int faultOfOrder(int d, int e) {
        if (!isDial(d) || !isDial(e)) {
            return FAULT_DIAL;
        }
        return kinds[d] != kinds[e] ? FAULT_UNLIKE : FAULT_NONE;
    }

    private int faultOfPair(int sort, int from, int to) {
        if (from == to || kinds[from] != kinds[to]) {
            return FAULT_UNLIKE;
        }
        return sort == SORT_SIGNED && !Numbers.isReal(kinds[from]) ? FAULT_WAY : FAULT_NONE;
    }

    private boolean isDial(int d) {
        return d >= 0 && d < dialCount;
    }

    private static boolean isSort(int sort) {
        return sort >= SORT_GREATER && sort <= SORT_SIZE;
    }

    private int movesWhenGiven(int d, long number) {
        for (int r = 0; r < rodCount; r++) {
            rodGone[r] = false;
        }
        movesOfCall = 0;
        gets(d, number, 0);
        return movesOfCall;
    }

    private void gets(int d, long number, int rodsBehind) {
        long fitted = Numbers.fitted(kinds[d], lows[d], highs[d], number);
        if (fitted == values[d]) {
            return;
        }
        move(d, fitted);
        // Each rod is gone along once a call at most, so none is left behind by this guard.
        if (rodsBehind >= MOST_RODS) {
            return;
        }
        for (int r = 0; r < rodCount; r++) {
            // Asked anew at each rod: what came of an earlier one may have gone along this one.
            if (rodFroms[r] == d && !rodGone[r]) {
                rodGone[r] = true;
                gets(rodTos[r], gift(rodSorts[r], d, rodTos[r]), rodsBehind + 1);
            }
        }
    }

    private void move(int d, long number) {
        // Only a call with a move is a step, so the values are kept ahead of its first one.
        if (movesOfCall == 0) {
            steps.keep(values, dialCount);
        }
        values[d] = number;
        movesOfCall++;
        movesInAll++;
    }

    private long gift(int sort, int from, int to) {
        int kind = kinds[from];
        switch (sort) {
            case SORT_GREATER:
                return Numbers.greater(kind, values[from], values[to]);
            case SORT_LESS:
                return Numbers.less(kind, values[from], values[to]);
            case SORT_SIGNED:
                return Numbers.signed(kind, values[to], values[from]);
            default:
                return Numbers.sizeOf(kind, values[from]);
        }
    }

    /**
     * The arithmetic of the four kinds, all on the longs that stand for the numbers. Reals are
     * worked on by their bits: so -0.0 stays apart from 0.0, and nothing is ever rounded unasked.
     */
    private static final class Numbers {
        private static final long FLOAT_SIZE_BITS = 0x7fffffffL;
        private static final long DOUBLE_SIZE_BITS = 0x7fffffffffffffffL;
        private static final long FLOAT_INFINITY = 0x7f800000L;
        private static final long DOUBLE_INFINITY = 0x7ff0000000000000L;
        private static final int FLOAT_PLACES = 23;
        private static final int DOUBLE_PLACES = 52;
        private static final long FLOAT_BIAS = 127L;
        private static final long DOUBLE_BIAS = 1023L;

        static boolean isReal(int kind) {
            return kind == KIND_FLOAT || kind == KIND_DOUBLE;
        }

        static boolean isOfKind(int kind, long number) {
            boolean isInt = number == (int) number;
            switch (kind) {
                case KIND_INT:
                    return isInt;
                case KIND_FLOAT:
                    return isInt && (number & FLOAT_SIZE_BITS) <= FLOAT_INFINITY;
                case KIND_DOUBLE:
                    return (number & DOUBLE_SIZE_BITS) <= DOUBLE_INFINITY;
                default:
                    return true;
            }
        }

        static int compared(int kind, long a, long b) {
            long rankOfA = rank(kind, a);
            long rankOfB = rank(kind, b);
            return rankOfA > rankOfB ? 1 : rankOfA < rankOfB ? -1 : 0;
        }

        static long greater(int kind, long a, long b) {
            return compared(kind, a, b) >= 0 ? a : b;
        }

        static long less(int kind, long a, long b) {
            return compared(kind, a, b) <= 0 ? a : b;
        }

        static long fitted(int kind, long low, long high, long number) {
            return greater(kind, low, less(kind, high, number));
        }

        static long sizeOf(int kind, long number) {
            switch (kind) {
                case KIND_INT:
                    // As an int, for the least one has to stay itself.
                    return Math.abs((int) number);
                case KIND_LONG:
                    return Math.abs(number);
                default:
                    return number & sizeBits(kind);
            }
        }

        static long signed(int kind, long size, long sign) {
            long bits = sizeBits(kind);
            return sign < 0L ? size | ~bits : size & bits;
        }

        static long turned(int kind, long number, int way) {
            if (way == WAY_SIZE) {
                return sizeOf(kind, number);
            }
            if (sizeOf(kind, number) == 0L) {
                return number;
            }
            if (way == WAY_SIGN) {
                return signed(kind, oneOf(kind), number);
            }
            return signed(kind, wholeSize(kind, number, way), number);
        }

        private static long wholeSize(int kind, long number, int way) {
            int places = placesOf(kind);
            long size = sizeOf(kind, number);
            long one = oneOf(kind);
            if (size < one) {
                long half = one - (1L << places);
                return isAway(number, way, size > half) ? one : 0L;
            }
            long power = (size - one) >> places;
            if (power >= places) {
                // No bit is left for a fraction: it is whole, or infinite.
                return size;
            }
            long unit = 1L << (places - power);
            long inner = size & -unit;
            long rest = size - inner;
            if (rest == 0L) {
                return size;
            }
            // Of 1.0 to 2.0 the unit is the exponent's last bit, which is set there: 1 is odd.
            boolean isOdd = (inner & unit) != 0L;
            long half = unit >> 1;
            boolean isNearerAway = rest > half || (rest == half && isOdd);
            // A carry out of the fraction makes the next exponent, as it should.
            return isAway(number, way, isNearerAway) ? inner + unit : inner;
        }

        private static boolean isAway(long number, int way, boolean isNearerAway) {
            switch (way) {
                case WAY_DOWN:
                    return number < 0L;
                case WAY_UP:
                    return number >= 0L;
                default:
                    return isNearerAway;
            }
        }

        /** Reals below zero grow in bits as they sink, so those bits are turned about. */
        private static long rank(int kind, long number) {
            return isReal(kind) && number < 0L ? number ^ sizeBits(kind) : number;
        }

        private static long sizeBits(int kind) {
            return kind == KIND_FLOAT ? FLOAT_SIZE_BITS : DOUBLE_SIZE_BITS;
        }

        private static int placesOf(int kind) {
            return kind == KIND_FLOAT ? FLOAT_PLACES : DOUBLE_PLACES;
        }

        private static long oneOf(int kind) {
            return (kind == KIND_FLOAT ? FLOAT_BIAS : DOUBLE_BIAS) << placesOf(kind);
        }
    }

    /** The values ahead of each step that can be taken back, in a ring of the latest ones. */
    private static final class Steps {
        private final long[] valuesAhead;
        private final int[] dialsAhead;
        private int earliest;
        private int held;

        Steps() {
            valuesAhead = new long[MOST_STEPS * MOST_DIALS];
            dialsAhead = new int[MOST_STEPS];
        }

        int held() {
            return held;
        }

        void keep(long[] values, int dials) {
            if (held == MOST_STEPS) {
                earliest = (earliest + 1) % MOST_STEPS;
                held--;
            }
            int slot = (earliest + held) % MOST_STEPS;
            dialsAhead[slot] = dials;
            System.arraycopy(values, 0, valuesAhead, slot * MOST_DIALS, dials);
            held++;
        }

        /** Answers how many values are others by it; the caller has seen that a step is held. */
        int restoreLatest(long[] values) {
            held--;
            int slot = (earliest + held) % MOST_STEPS;
            int others = 0;
            for (int d = 0; d < dialsAhead[slot]; d++) {
                long ahead = valuesAhead[slot * MOST_DIALS + d];
                if (values[d] != ahead) {
                    values[d] = ahead;
                    others++;
                }
            }
            return others;
        }
    }
}
