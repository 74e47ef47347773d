import java.util.ArrayDeque;
import java.util.ArrayList;
import java.util.HashSet;
import java.util.List;
import java.util.Random;
import java.util.Set;

/**
 * Runs of calls, the same ones each time, on a DetentCabinet and on a second cabinet that holds
 * its numbers as the library's Integer, Long, Float and Double. Every answer has to be the same.
 */
public final class ModelTest {
    private static final int RUNS = 20_000;
    private static final int CALLS = 512;
    private static final int MOST_TOLD = 20;

    private static int wrong = 0;

    public static void main(String[] args) {
        for (int run = 0; run < RUNS && wrong < MOST_TOLD; run++) {
            new Run(run).go();
        }
        turnsOfManyReals();
        callsBeyondTheLast();
        System.out.println(RUNS + " runs beside the model, " + wrong + " wrong answers");
        if (wrong != 0) {
            System.exit(1);
        }
    }

    private static void due(String call, long got, long want) {
        if (got != want) {
            wrong++;
            System.out.println(call + " answered " + got + ", due is " + want);
        }
    }

    /** What is answered after the 512th call is free, so nothing is asked but that none throws. */
    private static void callsBeyondTheLast() {
        Random random = new Random(3);
        DetentCabinet x = new DetentCabinet();
        for (int call = 0; call < 200_000; call++) {
            anyCall(x, random);
        }
    }

    private static void anyCall(DetentCabinet x, Random random) {
        int a = random.nextInt(18) - 1;
        int b = random.nextInt(18) - 1;
        int small = random.nextInt(7) - 1;
        long number = random.nextLong() >> random.nextInt(64);
        switch (random.nextInt(9)) {
            case 0:
                x.dial(small, -number, number);
                break;
            case 1:
                x.rod(small, a, b);
                break;
            case 2:
                x.turn(a, small);
                break;
            case 3:
                x.take(a, b, small);
                break;
            case 4:
                x.back();
                break;
            case 5:
                x.order(a, b);
                break;
            case 6:
                x.look(a, small);
                break;
            case 7:
                x.count(small);
                break;
            default:
                x.set(a, number);
                break;
        }
    }

    private static void turnsOfManyReals() {
        Random random = new Random(5);
        for (int i = 0; i < 100_000 && wrong < MOST_TOLD; i++) {
            float f = Float.intBitsToFloat((random.nextInt(40) + 112) << 23 | random.nextInt() & 0x807fffff);
            double d = Double.longBitsToDouble((random.nextInt(60) + 1015L) << 52
                | random.nextLong() & 0x800fffffffffffffL);
            turnBoth(2, f);
            turnBoth(3, d);
            turnBoth(2, (float) (random.nextInt(64) - 32) / 4);
            turnBoth(3, (double) (random.nextInt(64) - 32) / 4);
        }
    }

    private static void turnBoth(int kind, Number number) {
        DetentCabinet real = new DetentCabinet();
        Model model = new Model();
        long infinity = kind == 2 ? 0x7f800000L : 0x7ff0000000000000L;
        long negative = kind == 2 ? 0xffffffffff800000L : 0xfff0000000000000L;
        real.dial(kind, negative, infinity);
        model.dial(kind, negative, infinity);
        for (int way = 0; way <= 4; way++) {
            real.set(0, Model.bits(number));
            model.set(0, Model.bits(number));
            due("turn " + way + " of " + number, real.turn(0, way), model.turn(0, way));
            due("look after turn " + way + " of " + number, real.look(0, 0), model.look(0, 0));
        }
    }

    /** One run; its seed chooses how many kinds it mixes and how wild its arguments are. */
    private static final class Run {
        private static final long[] WHOLE = {0, 1, -1, 2, -2, 5, -5, 9, -9, 100, -100,
            Integer.MAX_VALUE, Integer.MIN_VALUE, Integer.MAX_VALUE + 1L, Integer.MIN_VALUE - 1L,
            Long.MAX_VALUE, Long.MIN_VALUE, Long.MIN_VALUE + 1};
        private static final double[] REAL = {0, 0.5, 1, 1.5, 2, 2.5, 3, 3.5, 0.3, 0.75, 7.5, 100,
            8388607.5, 4503599627370495.5, Double.MIN_VALUE, Float.MIN_VALUE, Double.MAX_VALUE,
            Float.MAX_VALUE, Double.POSITIVE_INFINITY, Double.NaN};

        /** The calls that lookAround() makes. */
        private static final int LOOKS = 24;

        private final int seed;
        private final Random random;
        private final DetentCabinet real = new DetentCabinet();
        private final Model model = new Model();
        private final int onlyKind;
        private final int wild;
        private final int dialsWanted;

        Run(int seed) {
            this.seed = seed;
            random = new Random(seed * 7919L + 13);
            onlyKind = random.nextInt(6);
            wild = random.nextInt(3) == 0 ? 8 : 200;
            dialsWanted = 2 + random.nextInt(15);
        }

        void go() {
            int wrongAhead = wrong;
            int calls = 0;
            while (calls + 2 + LOOKS <= CALLS && wrong == wrongAhead) {
                callBoth();
                due(at("count(4)"), real.count(4), model.count(4));
                calls += 2;
                if (random.nextInt(6) == 0) {
                    lookAround();
                    calls += LOOKS;
                }
            }
        }

        private void lookAround() {
            int d = random.nextInt(18) - 1;
            int what = random.nextInt(6) - 1;
            due(at("look(" + d + ", " + what + ")"), real.look(d, what), model.look(d, what));
            for (int c = -1; c <= 5; c++) {
                due(at("count(" + c + ")"), real.count(c), model.count(c));
            }
            for (int e = 0; e < 16; e++) {
                due(at("look(" + e + ", 0)"), real.look(e, 0), model.look(e, 0));
            }
        }

        private String at(String call) {
            return "run " + seed + ": " + call;
        }

        void callBoth() {
            int what = random.nextInt(20);
            if (model.count(0) < dialsWanted && random.nextInt(3) != 0) {
                dial();
            } else if (what < 5) {
                rod();
            } else if (what < 10) {
                set();
            } else if (what < 13) {
                int d = aDial();
                int way = below(5);
                due(at("turn(" + d + ", " + way + ")"), real.turn(d, way), model.turn(d, way));
            } else if (what < 16) {
                int d = aDial();
                int e = aDial();
                int sort = below(4);
                due(at("take(" + d + ", " + e + ", " + sort + ")"), real.take(d, e, sort),
                    model.take(d, e, sort));
            } else if (what < 18) {
                due(at("back()"), real.back(), model.back());
            } else if (what < 19) {
                int d = aDial();
                int e = aDial();
                due(at("order(" + d + ", " + e + ")"), real.order(d, e), model.order(d, e));
            } else {
                dial();
            }
        }

        private void dial() {
            int kind = onlyKind < 4 && random.nextInt(20) != 0 ? onlyKind : below(4);
            long low = aNumber(kind);
            long high = aNumber(kind);
            if (random.nextInt(3) == 0 && kind >= 0 && kind < 4) {
                low = Model.least(kind);
            }
            if (low > high && random.nextInt(4) != 0) {
                long other = low;
                low = high;
                high = other;
            }
            due(at("dial(" + kind + ", " + low + ", " + high + ")"), real.dial(kind, low, high),
                model.dial(kind, low, high));
        }

        private void rod() {
            int sort = below(4);
            int from = aDial();
            int to = aDial();
            due(at("rod(" + sort + ", " + from + ", " + to + ")"), real.rod(sort, from, to),
                model.rod(sort, from, to));
        }

        private void set() {
            int d = aDial();
            long v = aNumber((int) model.look(d, 3));
            due(at("set(" + d + ", " + v + ")"), real.set(d, v), model.set(d, v));
        }

        private int below(int bound) {
            return random.nextInt(wild) == 0 ? random.nextInt(bound + 4) - 2 : random.nextInt(bound);
        }

        private int aDial() {
            return random.nextInt(wild) == 0 ? random.nextInt() >> random.nextInt(32)
                : random.nextInt(model.count(0) + 1);
        }

        private long aNumber(int kind) {
            int how = random.nextInt(20);
            if (how == 0) {
                return random.nextLong() >> random.nextInt(64);
            }
            if (how == 1) {
                return random.nextInt();
            }
            double sign = random.nextBoolean() ? 1 : -1;
            double real = sign * REAL[random.nextInt(REAL.length)];
            if (kind == 2) {
                return Model.bits((float) real);
            }
            return kind == 3 ? Model.bits(real) : WHOLE[random.nextInt(WHOLE.length)];
        }
    }

    private static final class Dial {
        int kind;
        Number low;
        Number high;
        Number value;
    }

    private static final class Rod {
        int sort;
        int from;
        int to;
    }

    /** The document once more, by the library's numbers and lists. */
    private static final class Model {
        private final List<Dial> dials = new ArrayList<>();
        private final List<Rod> rods = new ArrayList<>();
        private final ArrayDeque<List<Number>> steps = new ArrayDeque<>();
        private Set<Rod> gone = new HashSet<>();
        private int moves;
        private int fault;

        static long bits(Number n) {
            if (n instanceof Float) {
                return Float.floatToRawIntBits((Float) n);
            }
            return n instanceof Double ? Double.doubleToRawLongBits((Double) n) : n.longValue();
        }

        static long least(int kind) {
            long[] all = {Integer.MIN_VALUE, Long.MIN_VALUE, bits(Float.NEGATIVE_INFINITY),
                bits(Double.NEGATIVE_INFINITY)};
            return all[kind];
        }

        /** Null if it is none of the kind. */
        private static Number number(int kind, long v) {
            if (kind == 1) {
                return v;
            }
            if (kind == 3) {
                double d = Double.longBitsToDouble(v);
                return Double.isNaN(d) ? null : (Number) d;
            }
            if (v != (int) v) {
                return null;
            }
            if (kind == 0) {
                return (int) v;
            }
            float f = Float.intBitsToFloat((int) v);
            return Float.isNaN(f) ? null : (Number) f;
        }

        private static int compare(Number a, Number b) {
            if (a instanceof Float) {
                return Float.compare(a.floatValue(), b.floatValue());
            }
            return a instanceof Double ? Double.compare(a.doubleValue(), b.doubleValue())
                : Long.compare(a.longValue(), b.longValue());
        }

        private static Number max(Number a, Number b) {
            return compare(a, b) > 0 ? a : b;
        }

        private static Number min(Number a, Number b) {
            return compare(a, b) < 0 ? a : b;
        }

        private static Number size(Number n) {
            if (n instanceof Integer) {
                return Math.abs((Integer) n);
            }
            if (n instanceof Long) {
                return Math.abs((Long) n);
            }
            return n instanceof Float ? (Number) Math.abs((Float) n) : (Number) Math.abs((Double) n);
        }

        private static Number likeOf(Number like, double d) {
            return like instanceof Float ? (Number) (float) d : (Number) d;
        }

        private boolean has(int d) {
            return d >= 0 && d < dials.size();
        }

        private int refuse(int why) {
            fault = why;
            return -1;
        }

        int dial(int kind, long low, long high) {
            fault = 0;
            if (kind < 0 || kind > 3) {
                return refuse(2);
            }
            if (dials.size() == 16) {
                return refuse(5);
            }
            Dial dial = new Dial();
            dial.kind = kind;
            dial.low = number(kind, low);
            dial.high = number(kind, high);
            if (dial.low == null || dial.high == null) {
                return refuse(3);
            }
            if (compare(dial.low, dial.high) > 0) {
                return refuse(4);
            }
            dial.value = max(dial.low, min(dial.high, number(kind, 0)));
            dials.add(dial);
            return dials.size() - 1;
        }

        int rod(int sort, int from, int to) {
            fault = 0;
            if (sort < 0 || sort > 3) {
                return refuse(2);
            }
            if (!has(from) || !has(to)) {
                return refuse(1);
            }
            int kind = dials.get(from).kind;
            if (from == to || kind != dials.get(to).kind) {
                return refuse(6);
            }
            if (sort == 2 && kind < 2) {
                return refuse(2);
            }
            if (rods.size() == 24) {
                return refuse(5);
            }
            Rod rod = new Rod();
            rod.sort = sort;
            rod.from = from;
            rod.to = to;
            rods.add(rod);
            return rods.size() - 1;
        }

        private Number gives(int sort, int from, int to) {
            Number a = dials.get(from).value;
            Number b = dials.get(to).value;
            if (sort == 0) {
                return max(a, b);
            }
            if (sort == 1) {
                return min(a, b);
            }
            return sort == 3 ? size(a) : likeOf(a, Math.copySign(b.doubleValue(), a.doubleValue()));
        }

        private int gets(int d, Number n) {
            List<Number> ahead = new ArrayList<>();
            for (Dial dial : dials) {
                ahead.add(dial.value);
            }
            gone = new HashSet<>();
            int made = follow(d, n);
            moves += made;
            if (made > 0) {
                steps.addLast(ahead);
                if (steps.size() > 6) {
                    steps.removeFirst();
                }
            }
            return made;
        }

        private int follow(int d, Number n) {
            Dial dial = dials.get(d);
            Number fitted = max(dial.low, min(dial.high, n));
            if (fitted.equals(dial.value)) {
                return 0;
            }
            dial.value = fitted;
            int made = 1;
            for (Rod rod : rods) {
                if (rod.from == d && gone.add(rod)) {
                    made += follow(rod.to, gives(rod.sort, d, rod.to));
                }
            }
            return made;
        }

        int set(int d, long v) {
            fault = 0;
            if (!has(d)) {
                return refuse(1);
            }
            Number n = number(dials.get(d).kind, v);
            return n == null ? refuse(3) : gets(d, n);
        }

        int turn(int d, int way) {
            fault = 0;
            if (!has(d)) {
                return refuse(1);
            }
            Number v = dials.get(d).value;
            if (way == 0) {
                return gets(d, size(v));
            }
            if (way < 0 || way > 4 || dials.get(d).kind < 2) {
                return refuse(2);
            }
            double x = v.doubleValue();
            double turned = way == 1 ? Math.floor(x) : way == 2 ? Math.ceil(x)
                : way == 3 ? Math.rint(x) : Math.signum(x);
            return gets(d, likeOf(v, turned));
        }

        int take(int d, int e, int sort) {
            fault = 0;
            if (!has(d) || !has(e)) {
                return refuse(1);
            }
            if (sort < 0 || sort > 3) {
                return refuse(2);
            }
            if (d == e || dials.get(d).kind != dials.get(e).kind) {
                return refuse(6);
            }
            return sort == 2 && dials.get(d).kind < 2 ? refuse(2) : gets(d, gives(sort, e, d));
        }

        int back() {
            fault = 0;
            if (steps.isEmpty()) {
                return refuse(7);
            }
            List<Number> ahead = steps.removeLast();
            int others = 0;
            for (int d = 0; d < ahead.size(); d++) {
                if (!ahead.get(d).equals(dials.get(d).value)) {
                    others++;
                }
                dials.get(d).value = ahead.get(d);
            }
            return others;
        }

        int order(int d, int e) {
            fault = 0;
            if (!has(d) || !has(e)) {
                fault = 1;
                return -2;
            }
            if (dials.get(d).kind != dials.get(e).kind) {
                fault = 6;
                return -2;
            }
            return compare(dials.get(d).value, dials.get(e).value);
        }

        long look(int d, int what) {
            if (!has(d) || what < 0 || what > 3) {
                return 0;
            }
            Dial dial = dials.get(d);
            return what == 0 ? bits(dial.value) : what == 1 ? bits(dial.low)
                : what == 2 ? bits(dial.high) : dial.kind;
        }

        int count(int what) {
            int[] all = {dials.size(), rods.size(), steps.size(), moves, fault};
            return what < 0 || what > 4 ? -1 : all[what];
        }
    }
}
