/** Each promise of the document by hand: ordinary inputs, the edges it names, wrong inputs. */
public final class PromisesTest {
    private static final int INT = 0;
    private static final int LONG = 1;
    private static final int FLOAT = 2;
    private static final int DOUBLE = 3;

    private static final int DIAL = 1;
    private static final int WAY = 2;
    private static final int NUMBER = 3;
    private static final int ENDS = 4;
    private static final int FULL = 5;
    private static final int UNLIKE = 6;
    private static final int STEP = 7;

    private static final long NAN_F = f(Float.NaN);
    private static final long NAN_D = d(Double.NaN);

    private static int asked = 0;
    private static int wrong = 0;

    private static long f(float x) {
        return Float.floatToRawIntBits(x);
    }

    private static long d(double x) {
        return Double.doubleToRawLongBits(x);
    }

    private static void due(String what, long got, long want) {
        asked++;
        if (got != want) {
            wrong++;
            System.out.println(what + ": answered " + got + ", due is " + want);
        }
    }

    private static void refused(String what, DetentCabinet x, long got, int fault) {
        due(what + " is refused", got, -1);
        due(what + ": its fault", x.count(4), fault);
    }

    private static int wideInt(DetentCabinet x) {
        return x.dial(INT, Integer.MIN_VALUE, Integer.MAX_VALUE);
    }

    private static int wideLong(DetentCabinet x) {
        return x.dial(LONG, Long.MIN_VALUE, Long.MAX_VALUE);
    }

    private static int wideFloat(DetentCabinet x) {
        return x.dial(FLOAT, f(Float.NEGATIVE_INFINITY), f(Float.POSITIVE_INFINITY));
    }

    private static int wideDouble(DetentCabinet x) {
        return x.dial(DOUBLE, d(Double.NEGATIVE_INFINITY), d(Double.POSITIVE_INFINITY));
    }

    public static void main(String[] args) {
        promise1New();
        promise2Dial();
        promise2Faults();
        promise3Rod();
        promise3Faults();
        promise4Set();
        promise4Fitted();
        promise4Rods();
        promise4RodsInOrder();
        promise4Chain();
        promise5TurnWhole();
        promise5TurnReals();
        promise5TurnEnds();
        promise6Take();
        promise6Faults();
        promise7Back();
        promise7LatestSix();
        promise7NewDials();
        promise8Order();
        promise9Look();
        promise10Count();
        due("NONE", DetentCabinet.NONE, -1);
        System.out.println(asked + " answers asked, " + wrong + " wrong");
        if (wrong != 0) {
            System.exit(1);
        }
    }

    private static void promise1New() {
        DetentCabinet x = new DetentCabinet();
        for (int what = 0; what <= 4; what++) {
            due("new: count " + what, x.count(what), 0);
        }
        due("new: look", x.look(0, 0), 0);
        refused("new: set", x, x.set(0, 0), DIAL);
        refused("new: back", x, x.back(), STEP);
        wideInt(x);
        due("new: another object is apart", new DetentCabinet().count(0), 0);
    }

    private static void promise2Dial() {
        DetentCabinet x = new DetentCabinet();
        due("dial 0", x.dial(INT, -5, 5), 0);
        due("dial 1", x.dial(LONG, 3, 9), 1);
        due("dial 2", x.dial(LONG, -9, -3), 2);
        due("dial 3", x.dial(FLOAT, f(1.5f), f(2f)), 3);
        due("dial 4", x.dial(DOUBLE, d(-2), d(-0.0)), 4);
        due("dial 5", x.dial(DOUBLE, d(0.0), d(0.0)), 5);
        due("dial 6", x.dial(FLOAT, f(-0f), f(-0f)), 6);
        due("dial 7", x.dial(FLOAT, f(-0f), f(0f)), 7);
        long[] values = {0, 3, -3, f(1.5f), d(-0.0), 0, f(-0f), 0};
        for (int i = 0; i < values.length; i++) {
            due("dial " + i + " begins at", x.look(i, 0), values[i]);
        }
        due("dial: no move", x.count(3), 0);
        due("dial: no step", x.count(2), 0);
    }

    private static void promise2Faults() {
        DetentCabinet x = new DetentCabinet();
        refused("kind -1", x, x.dial(-1, 0, 1), WAY);
        refused("kind 4", x, x.dial(4, 0, 1), WAY);
        refused("int low", x, x.dial(INT, Integer.MIN_VALUE - 1L, 0), NUMBER);
        refused("int high", x, x.dial(INT, 0, Integer.MAX_VALUE + 1L), NUMBER);
        refused("float low", x, x.dial(FLOAT, NAN_F, 0), NUMBER);
        refused("float high", x, x.dial(FLOAT, 0, f(Float.intBitsToFloat(0xff800001))), NUMBER);
        refused("float beyond an int", x, x.dial(FLOAT, 0, 0x80000000L), NUMBER);
        refused("double low", x, x.dial(DOUBLE, NAN_D, 0), NUMBER);
        refused("double high", x, x.dial(DOUBLE, 0, 0xfff0000000000001L), NUMBER);
        refused("number ahead of ends", x, x.dial(INT, 5, Long.MIN_VALUE), NUMBER);
        refused("int ends", x, x.dial(INT, 1, 0), ENDS);
        refused("long ends", x, x.dial(LONG, Long.MAX_VALUE, Long.MIN_VALUE), ENDS);
        refused("float ends", x, x.dial(FLOAT, f(-1f), f(-2f)), ENDS);
        refused("float zero ends", x, x.dial(FLOAT, f(0f), f(-0f)), ENDS);
        refused("double ends", x, x.dial(DOUBLE, d(3), d(-4)), ENDS);
        refused("double zero ends", x, x.dial(DOUBLE, d(0.0), d(-0.0)), ENDS);
        due("refused: no dials", x.count(0), 0);
        for (int i = 0; i < 16; i++) {
            due("one of sixteen", x.dial(i % 4, 0, 0), i);
        }
        refused("seventeenth", x, x.dial(INT, 0, 0), FULL);
        refused("full ahead of number", x, x.dial(FLOAT, NAN_F, 0), FULL);
        refused("full ahead of ends", x, x.dial(INT, 1, 0), FULL);
        refused("kind ahead of full", x, x.dial(4, 0, 0), WAY);
        due("sixteen dials", x.count(0), 16);
    }

    private static void promise3Rod() {
        DetentCabinet x = new DetentCabinet();
        wideInt(x);
        wideInt(x);
        x.set(0, -8);
        for (int i = 0; i < 24; i++) {
            due("rod " + i, x.rod(i % 2 == 0 ? 3 : 0, i % 2, 1 - i % 2), i);
        }
        due("rod: nothing is moved", x.look(1, 0), 0);
        due("rod: no moves", x.count(3), 1);
        due("rod: no steps", x.count(2), 1);
        refused("rod: full", x, x.rod(0, 0, 1), FULL);
        refused("rod: way of int ahead of full", x, x.rod(2, 0, 1), WAY);
        refused("rod: unlike ahead of full", x, x.rod(0, 1, 1), UNLIKE);
        due("rod: twenty-four", x.count(1), 24);
    }

    private static void promise3Faults() {
        DetentCabinet x = new DetentCabinet();
        wideInt(x);
        wideLong(x);
        wideFloat(x);
        wideDouble(x);
        refused("rod: sort -1", x, x.rod(-1, 9, 9), WAY);
        refused("rod: sort 4", x, x.rod(4, 0, 0), WAY);
        refused("rod: from", x, x.rod(0, -1, 0), DIAL);
        refused("rod: from beyond", x, x.rod(0, 4, 0), DIAL);
        refused("rod: to", x, x.rod(0, 0, -1), DIAL);
        refused("rod: to beyond", x, x.rod(2, 0, 4), DIAL);
        for (int from = 0; from < 4; from++) {
            for (int to = 0; to < 4; to++) {
                refused("rod: unlike " + from + to, x, x.rod(2, from, to), UNLIKE);
            }
        }
        due("rod: still none", x.count(1), 0);
        wideInt(x);
        wideLong(x);
        wideFloat(x);
        wideDouble(x);
        refused("rod: sort 2 of int", x, x.rod(2, 0, 4), WAY);
        refused("rod: sort 2 of long", x, x.rod(2, 5, 1), WAY);
        due("rod: sort 2 of float", x.rod(2, 2, 6), 0);
        due("rod: sort 2 of double", x.rod(2, 7, 3), 1);
        due("rod: no fault left", x.count(4), 0);
    }

    private static void promise4Set() {
        DetentCabinet x = new DetentCabinet();
        wideInt(x);
        wideLong(x);
        wideFloat(x);
        wideDouble(x);
        refused("set: dial -1", x, x.set(-1, 0), DIAL);
        refused("set: dial 4", x, x.set(4, Long.MIN_VALUE), DIAL);
        refused("set: int above", x, x.set(0, Integer.MAX_VALUE + 1L), NUMBER);
        refused("set: int below", x, x.set(0, Integer.MIN_VALUE - 1L), NUMBER);
        refused("set: float above", x, x.set(2, Long.MAX_VALUE), NUMBER);
        refused("set: float's bits as no int", x, x.set(2, 0xff800000L), NUMBER);
        refused("set: float nan", x, x.set(2, 0x7f800001L), NUMBER);
        refused("set: float nan below", x, x.set(2, -1L), NUMBER);
        refused("set: double nan", x, x.set(3, 0x7ff0000000000001L), NUMBER);
        refused("set: double nan below", x, x.set(3, -1L), NUMBER);
        due("set: no moves", x.count(3), 0);
        due("set: no steps", x.count(2), 0);
        due("set int", x.set(0, Integer.MIN_VALUE), 1);
        due("set long", x.set(1, Long.MIN_VALUE), 1);
        due("set float", x.set(2, f(Float.NEGATIVE_INFINITY)), 1);
        due("set double", x.set(3, d(Double.POSITIVE_INFINITY)), 1);
        due("set the same", x.set(0, Integer.MIN_VALUE), 0);
        due("the same is no step", x.count(2), 4);
        due("set float -0.0", x.set(2, f(-0f)), 1);
        due("set float 0.0", x.set(2, f(0f)), 1);
        due("set float 0.0 again", x.set(2, f(0f)), 0);
        due("set double -0.0", x.set(3, d(-0.0)), 1);
        due("double is -0.0", x.look(3, 0), d(-0.0));
    }

    private static void promise4Fitted() {
        DetentCabinet x = new DetentCabinet();
        x.dial(INT, -3, 9);
        x.dial(DOUBLE, d(-0.0), d(2.5));
        x.dial(FLOAT, f(-7.5f), f(-2f));
        due("above high", x.set(0, 100), 1);
        due("is high", x.look(0, 0), 9);
        due("above high again", x.set(0, 101), 0);
        due("below low", x.set(0, -100), 1);
        due("is low", x.look(0, 0), -3);
        due("within", x.set(0, 4), 1);
        due("is it", x.look(0, 0), 4);
        due("low by order", x.set(1, d(-1)), 1);
        due("is -0.0", x.look(1, 0), d(-0.0));
        due("infinity", x.set(1, d(Double.POSITIVE_INFINITY)), 1);
        due("is 2.5", x.look(1, 0), d(2.5));
        due("far below zero", x.set(2, f(-1e30f)), 1);
        due("is -7.5", x.look(2, 0), f(-7.5f));
        due("-3 is within", x.set(2, f(-3f)), 1);
        due("is -3", x.look(2, 0), f(-3f));
        due("above by order", x.set(2, f(-0f)), 1);
        due("is -2", x.look(2, 0), f(-2f));
    }

    private static void promise4Rods() {
        DetentCabinet x = new DetentCabinet();
        for (int i = 0; i < 5; i++) {
            wideDouble(x);
        }
        x.set(1, d(3));
        x.set(2, d(3));
        x.set(3, d(3));
        x.set(4, d(3));
        x.rod(0, 0, 1);
        x.rod(1, 0, 2);
        x.rod(2, 0, 3);
        x.rod(3, 0, 4);
        due("rods: -8 is given", x.set(0, d(-8)), 4);
        due("greater", x.look(1, 0), d(3));
        due("less", x.look(2, 0), d(-8));
        due("signed", x.look(3, 0), d(-3));
        due("size", x.look(4, 0), d(8));
        due("rods: 5 is given", x.set(0, d(5)), 4);
        due("greater of 5", x.look(1, 0), d(5));
        due("less of 5", x.look(2, 0), d(-8));
        due("signed of 5", x.look(3, 0), d(3));
        due("size of 5", x.look(4, 0), d(5));
        due("rods: -0.0 has a sign", x.set(0, d(-0.0)), 3);
        due("signed of -0.0", x.look(3, 0), d(-3));
        due("size of -0.0", x.look(4, 0), d(0.0));
        due("no move, no rods", x.set(0, d(-0.0)), 0);
        due("rods: 0.0 has the other one", x.set(0, d(0.0)), 2);
        due("signed of 0.0", x.look(3, 0), d(3));
        due("the ends of rods give nothing", x.set(4, d(11)), 1);
        due("moves in all", x.count(3), 18);
    }

    private static void promise4RodsInOrder() {
        DetentCabinet x = new DetentCabinet();
        wideLong(x);
        x.dial(LONG, -4, 4);
        wideLong(x);
        x.rod(0, 0, 1);
        x.rod(3, 1, 0);
        x.rod(3, 0, 2);
        // 0 to 9, 1 to 4, 0 to 4, 2 to 4 by rod 2 inside; rod 2 is not gone along again.
        due("a ring", x.set(0, 9), 4);
        due("ring 0", x.look(0, 0), 4);
        due("ring 1", x.look(1, 0), 4);
        due("ring 2", x.look(2, 0), 4);
        due("ring back", x.back(), 3);

        DetentCabinet w = new DetentCabinet();
        wideFloat(w);
        wideFloat(w);
        w.set(1, f(3f));
        w.rod(2, 0, 1);
        w.rod(3, 1, 0);
        // 0 to -5, 1 to -3, 0 to 3; rod 0 would now make 1 a 3, but was gone along.
        due("a rod is gone along once", w.set(0, f(-5f)), 3);
        due("once 0", w.look(0, 0), f(3f));
        due("once 1", w.look(1, 0), f(-3f));

        DetentCabinet y = new DetentCabinet();
        wideInt(y);
        wideInt(y);
        y.rod(3, 0, 1);
        y.rod(1, 0, 1);
        y.rod(0, 0, 1);
        due("three rods to one dial", y.set(0, -6), 3);
        due("the later rod has the last word", y.look(1, 0), -6);

        DetentCabinet z = new DetentCabinet();
        for (int i = 0; i < 4; i++) {
            wideInt(z);
        }
        z.set(1, 7);
        z.rod(1, 0, 1);
        z.rod(3, 0, 2);
        z.rod(3, 1, 2);
        z.rod(3, 2, 3);
        // All that comes of rod 0 first: 1 to -5, 2 to 5, 3 to 5; then rod 1 finds 2 at 5.
        due("depth first", z.set(0, -5), 4);
        due("depth first 3", z.look(3, 0), 5);
        z.set(0, 3);
        // 0 to 2: rod 0 leaves 1 at -5, rod 1 moves 2 to 2, rod 3 moves 3 to 2.
        due("rods are free again in the next call", z.set(0, 2), 3);
        due("next call 3", z.look(3, 0), 2);
    }

    private static void promise4Chain() {
        DetentCabinet x = new DetentCabinet();
        for (int i = 0; i < 16; i++) {
            wideInt(x);
        }
        for (int i = 0; i < 24; i++) {
            x.rod(i < 12 ? 0 : 3, i % 16, (i + 1) % 16);
        }
        due("a chain round all dials", x.set(0, 5), 16);
        due("the last of the chain", x.look(15, 0), 5);
        // Rods 0 to 7 give the greater, 5; rods 16 to 23, side by side with them, the size, 4.
        due("a lower number", x.set(0, 4), 9);
        due("the last that is lower", x.look(8, 0), 4);
        due("the first that is not", x.look(9, 0), 5);
        due("taken back", x.back(), 9);
        due("all taken back", x.back(), 16);
    }

    private static void promise5TurnWhole() {
        DetentCabinet x = new DetentCabinet();
        wideInt(x);
        wideLong(x);
        x.dial(INT, -10, 4);
        x.set(0, -7);
        x.set(1, -7000000000L);
        x.set(2, -9);
        due("size of int", x.turn(0, 0), 1);
        due("is 7", x.look(0, 0), 7);
        due("size again", x.turn(0, 0), 0);
        due("size of long", x.turn(1, 0), 1);
        due("is 7000000000", x.look(1, 0), 7000000000L);
        due("size is fitted", x.turn(2, 0), 1);
        due("is 4", x.look(2, 0), 4);
        x.set(0, Integer.MIN_VALUE);
        x.set(1, Long.MIN_VALUE);
        due("size of the least int", x.turn(0, 0), 0);
        due("the least int", x.look(0, 0), Integer.MIN_VALUE);
        due("size of the least long", x.turn(1, 0), 0);
        due("the least long", x.look(1, 0), Long.MIN_VALUE);
        for (int kind = 0; kind < 2; kind++) {
            for (int way = 1; way <= 4; way++) {
                refused("turn " + way + " of kind " + kind, x, x.turn(kind, way), WAY);
            }
            refused("turn -1", x, x.turn(kind, -1), WAY);
        }
        refused("turn: no dial", x, x.turn(3, 0), DIAL);
        refused("turn: dial ahead of way", x, x.turn(-1, 9), DIAL);
    }

    private static void promise5TurnReals() {
        double[] from = {0.0, 0.25, 0.5, 0.75, 1, 1.25, 1.5, 1.75, 2, 2.5, 3.5, 6.5, 7.5, 1023.5,
            4194303.5, 4194304.5, 8388607, 8388608, 1e20, Float.MIN_VALUE, Float.MAX_VALUE,
            Double.POSITIVE_INFINITY};
        for (double size : from) {
            turnAllWays(size);
            turnAllWays(-size);
        }
        double[] wide = {0.49999999999999994, 0.5000000000000001, 4503599627370495.5,
            4503599627370494.5, 4503599627370496.0, 4503599627370497.0, 2251799813685248.25,
            Double.MIN_VALUE, Double.MAX_VALUE};
        for (double size : wide) {
            turnAllWaysOfDouble(size);
            turnAllWaysOfDouble(-size);
        }
        DetentCabinet x = new DetentCabinet();
        wideFloat(x);
        wideDouble(x);
        refused("turn 5 of float", x, x.turn(0, 5), WAY);
        refused("turn -1 of double", x, x.turn(1, -1), WAY);
        refused("turn: no dial 2", x, x.turn(2, 5), DIAL);
    }

    private static double turned(double v, int way) {
        switch (way) {
            case 0:
                return Math.abs(v);
            case 1:
                return Math.floor(v);
            case 2:
                return Math.ceil(v);
            case 3:
                return Math.rint(v);
            default:
                return Math.signum(v);
        }
    }

    private static void turnAllWays(double v) {
        turnAllWaysOfDouble(v);
        for (int way = 0; way <= 4; way++) {
            DetentCabinet x = new DetentCabinet();
            wideFloat(x);
            x.set(0, f((float) v));
            long want = f((float) turned(v, way));
            due("moves of turn " + way + " of float " + v, x.turn(0, way), want == f((float) v) ? 0 : 1);
            due("turn " + way + " of float " + v, x.look(0, 0), want);
        }
    }

    private static void turnAllWaysOfDouble(double v) {
        for (int way = 0; way <= 4; way++) {
            DetentCabinet x = new DetentCabinet();
            wideDouble(x);
            x.set(0, d(v));
            long want = d(turned(v, way));
            due("moves of turn " + way + " of " + v, x.turn(0, way), want == d(v) ? 0 : 1);
            due("turn " + way + " of " + v, x.look(0, 0), want);
        }
    }

    private static void promise5TurnEnds() {
        DetentCabinet x = new DetentCabinet();
        x.dial(DOUBLE, d(0.25), d(0.75));
        x.dial(DOUBLE, d(-9), d(-0.0));
        x.set(0, d(0.5));
        due("down to low", x.turn(0, 1), 1);
        due("low", x.look(0, 0), d(0.25));
        due("up to high", x.turn(0, 2), 1);
        due("high", x.look(0, 0), d(0.75));
        due("sign to high", x.turn(0, 4), 0);
        x.set(1, d(-0.5));
        due("up to -0.0", x.turn(1, 2), 1);
        due("-0.0", x.look(1, 0), d(-0.0));
        due("size of -0.0 is fitted", x.turn(1, 0), 0);
        x.rod(3, 1, 0);
        due("a turn goes along rods", x.set(1, d(-0.5)), 2);
        due("a turn is a move", x.turn(1, 1), 2);
        due("by its rod", x.look(0, 0), d(0.75));
    }

    private static void promise6Take() {
        DetentCabinet x = new DetentCabinet();
        wideFloat(x);
        x.dial(FLOAT, f(-4f), f(4f));
        wideFloat(x);
        x.set(0, f(-9f));
        x.set(1, f(2f));
        due("take greater", x.take(1, 0, 0), 0);
        due("take signed", x.take(1, 0, 2), 1);
        due("is -2", x.look(1, 0), f(-2f));
        due("take size", x.take(1, 0, 3), 1);
        due("size is fitted", x.look(1, 0), f(4f));
        due("take less", x.take(1, 0, 1), 1);
        due("less is fitted", x.look(1, 0), f(-4f));
        due("the giver stays", x.look(0, 0), f(-9f));
        x.set(0, f(-0f));
        x.set(1, f(0f));
        due("take less of zeros", x.take(1, 0, 1), 1);
        due("is -0.0", x.look(1, 0), f(-0f));
        x.set(0, f(0f));
        due("take greater of zeros", x.take(1, 0, 0), 1);
        due("is 0.0", x.look(1, 0), f(0f));
        x.rod(2, 1, 2);
        x.set(0, f(-0f));
        x.set(2, f(6f));
        due("take goes along rods", x.take(1, 0, 2), 2);
        due("by the rod", x.look(2, 0), f(-6f));
        due("taking makes no rod", x.count(1), 1);
        due("back takes all", x.back(), 2);

        DetentCabinet y = new DetentCabinet();
        wideInt(y);
        wideInt(y);
        y.set(0, Integer.MIN_VALUE);
        due("size of the least int", y.take(1, 0, 3), 1);
        due("the least int", y.look(1, 0), Integer.MIN_VALUE);
    }

    private static void promise6Faults() {
        DetentCabinet x = new DetentCabinet();
        wideInt(x);
        wideInt(x);
        wideFloat(x);
        refused("take: d", x, x.take(3, 0, 9), DIAL);
        refused("take: e", x, x.take(0, 3, 9), DIAL);
        refused("take: d below", x, x.take(-1, 0, 0), DIAL);
        refused("take: e below", x, x.take(0, -1, 0), DIAL);
        refused("take: sort 4", x, x.take(0, 0, 4), WAY);
        refused("take: sort -1", x, x.take(0, 2, -1), WAY);
        refused("take: twice", x, x.take(0, 0, 2), UNLIKE);
        refused("take: kinds", x, x.take(0, 2, 2), UNLIKE);
        refused("take: sort 2 of int", x, x.take(0, 1, 2), WAY);
        due("take: no fault", x.take(0, 1, 3), 0);
        due("take: fault is gone", x.count(4), 0);
    }

    private static void promise7Back() {
        DetentCabinet x = new DetentCabinet();
        refused("back: none", x, x.back(), STEP);
        wideLong(x);
        x.dial(LONG, 0, 0);
        due("no move", x.set(1, 5), 0);
        refused("back: no step without a move", x, x.back(), STEP);
        x.set(0, 5);
        x.set(0, 6);
        due("steps", x.count(2), 2);
        due("back to 5", x.back(), 1);
        due("is 5", x.look(0, 0), 5);
        due("one step", x.count(2), 1);
        due("moves stay", x.count(3), 2);
        x.set(0, 7);
        due("back to 5 again", x.back(), 1);
        due("is 5 again", x.look(0, 0), 5);
        due("back to 0", x.back(), 1);
        due("is 0", x.look(0, 0), 0);
        refused("back: no more", x, x.back(), STEP);

        DetentCabinet y = new DetentCabinet();
        wideDouble(y);
        y.dial(DOUBLE, d(2), d(2));
        wideDouble(y);
        y.set(0, d(2));
        y.rod(0, 0, 1);
        y.rod(3, 0, 2);
        y.rod(0, 2, 0);
        y.set(2, d(7));
        y.set(0, d(7));
        // 0 falls to 1, 2 follows to 1, 2 gives 0 the greater, which is 1.
        due("down", y.set(0, d(1)), 2);
        due("two are others", y.back(), 2);

        DetentCabinet z = new DetentCabinet();
        wideInt(z);
        z.dial(INT, 3, 3);
        z.set(0, 3);
        z.dial(INT, -9, 9);
        z.rod(3, 0, 2);
        z.rod(3, 2, 0);
        due("there and back in one call", z.set(0, -3), 3);
        due("0 is 3 again", z.look(0, 0), 3);
        due("only one is another", z.back(), 1);
    }

    private static void promise7LatestSix() {
        DetentCabinet x = new DetentCabinet();
        wideInt(x);
        for (int i = 1; i <= 9; i++) {
            x.set(0, i);
            due("steps held", x.count(2), Math.min(i, 6));
        }
        x.set(0, 9);
        due("no move pushes nothing out", x.count(2), 6);
        for (int i = 8; i >= 6; i--) {
            due("back", x.back(), 1);
            due("value", x.look(0, 0), i);
        }
        for (int i = 21; i <= 24; i++) {
            x.set(0, i);
        }
        due("six again", x.count(2), 6);
        int[] due = {23, 22, 21, 6, 5, 4};
        for (int value : due) {
            due("back", x.back(), 1);
            due("value", x.look(0, 0), value);
        }
        refused("pushed out for good", x, x.back(), STEP);
        due("stays", x.look(0, 0), 4);
        due("moves in all", x.count(3), 13);
    }

    private static void promise7NewDials() {
        DetentCabinet x = new DetentCabinet();
        wideInt(x);
        x.set(0, 5);
        x.dial(INT, 2, 9);
        due("back", x.back(), 1);
        due("the new dial stays", x.look(1, 0), 2);
        x.set(0, 6);
        x.dial(INT, 4, 9);
        x.set(2, 8);
        due("back of the new one", x.back(), 1);
        due("is as it came", x.look(2, 0), 4);
        due("back of the old one", x.back(), 1);
        due("the newest stays", x.look(2, 0), 4);
        due("dials stay", x.count(0), 3);
        x.rod(0, 0, 1);
        x.set(0, 9);
        due("two by a rod", x.back(), 2);
        due("rods stay", x.count(1), 1);
    }

    private static void promise8Order() {
        DetentCabinet x = new DetentCabinet();
        long[][] rising = {
            {Integer.MIN_VALUE, -1, 0, 1, Integer.MAX_VALUE},
            {Long.MIN_VALUE, -1, 0, 1, Long.MAX_VALUE},
            {f(Float.NEGATIVE_INFINITY), f(-2f), f(-0f), f(0f), f(Float.MIN_VALUE)},
            {d(Double.NEGATIVE_INFINITY), d(-Double.MIN_VALUE), d(-0.0), d(0.0), d(7)},
        };
        for (int kind = 0; kind < 4; kind++) {
            for (int i = 0; i < 3; i++) {
                int dial = kind == 0 ? wideInt(x) : kind == 1 ? wideLong(x)
                    : kind == 2 ? wideFloat(x) : wideDouble(x);
                due("numbered", dial, kind * 3 + i);
            }
            for (int a = 0; a < 5; a++) {
                for (int b = 0; b < 5; b++) {
                    x.set(kind * 3, rising[kind][a]);
                    x.set(kind * 3 + 1, rising[kind][b]);
                    due("order", x.order(kind * 3, kind * 3 + 1), Integer.compare(a, b));
                }
            }
        }
        due("one twice", x.order(4, 4), 0);
        due("no fault", x.count(4), 0);
        due("unlike", x.order(0, 3), -2);
        due("unlike: fault", x.count(4), UNLIKE);
        due("no dial d", x.order(12, 0), -2);
        due("no dial d: fault", x.count(4), DIAL);
        due("no dial e", x.order(0, -1), -2);
        due("no dial e: fault", x.count(4), DIAL);
        due("none such twice", x.order(12, 12), -2);
        due("none such twice: fault", x.count(4), DIAL);
    }

    private static void promise9Look() {
        DetentCabinet x = new DetentCabinet();
        x.dial(DOUBLE, d(-1.5), d(8.25));
        x.dial(INT, -7, -2);
        x.set(0, d(3));
        due("value", x.look(0, 0), d(3));
        due("low", x.look(0, 1), d(-1.5));
        due("high", x.look(0, 2), d(8.25));
        due("kind", x.look(0, 3), DOUBLE);
        due("value of int", x.look(1, 0), -2);
        due("low of int", x.look(1, 1), -7);
        due("high of int", x.look(1, 2), -2);
        due("kind of int", x.look(1, 3), INT);
        due("what 4", x.look(1, 4), 0);
        due("what -1", x.look(1, -1), 0);
        due("dial 2", x.look(2, 0), 0);
        due("dial -1", x.look(-1, 1), 0);
        due("dial 16", x.look(16, 1), 0);
        due("the greatest", x.look(Integer.MAX_VALUE, Integer.MAX_VALUE), 0);
        due("the least", x.look(Integer.MIN_VALUE, Integer.MIN_VALUE), 0);
        due("no fault of look", x.count(4), 0);
        due("no step of look", x.count(2), 1);
    }

    private static void promise10Count() {
        DetentCabinet x = new DetentCabinet();
        wideInt(x);
        wideInt(x);
        wideFloat(x);
        x.rod(3, 0, 1);
        x.set(0, 5);
        x.set(0, 6);
        due("dials", x.count(0), 3);
        due("rods", x.count(1), 1);
        due("steps", x.count(2), 2);
        due("moves", x.count(3), 4);
        x.back();
        due("dials after back", x.count(0), 3);
        due("steps after back", x.count(2), 1);
        due("moves after back", x.count(3), 4);
        due("what 5", x.count(5), -1);
        due("what -1", x.count(-1), -1);
        x.set(9, 9);
        x.look(9, 9);
        x.count(9);
        due("look and count leave the fault", x.count(4), DIAL);
        x.order(0, 1);
        due("order takes the fault", x.count(4), 0);
        x.order(0, 2);
        due("order has a fault", x.count(4), UNLIKE);
        x.set(0, 5);
        due("set without a move takes the fault", x.count(4), 0);
        x.turn(0, 3);
        x.back();
        due("back takes the fault", x.count(4), 0);
        x.turn(0, 3);
        x.turn(0, 0);
        due("turn takes the fault", x.count(4), 0);
        x.turn(0, 3);
        x.rod(0, 0, 1);
        due("rod takes the fault", x.count(4), 0);
        x.turn(0, 3);
        x.dial(INT, 0, 0);
        due("dial takes the fault", x.count(4), 0);
    }
}
