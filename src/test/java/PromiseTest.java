/** Promise by promise: ordinary calls, the edges that the document names, and wrong calls. */
public final class PromiseTest {
    private static final int UNKNOWN = -1;
    private static final int OUTSIDE = -2;
    private static final int FULL = -4;
    private static final int NOTHING = -21;
    private static final int BEYOND = -22;
    private static final int CAST = -23;
    private static final int SIZE = -24;
    private static final int STORE = -25;
    private static final int ZERO = -26;
    private static final long FAR = 4000000000000000000L;

    private static int wrong = 0;

    private static void due(String what, long got, long want) {
        if (got != want) {
            wrong++;
            System.out.println(what + " answered " + got + ", due is " + want);
        }
    }

    private static long bits(float f) {
        return Float.floatToRawIntBits(f);
    }

    private static long bits(double d) {
        return Double.doubleToRawLongBits(d);
    }

    private static void floatAt(String what, TideDials x, int table, int i, float want) {
        due(what, x.number(table, 0, i), bits(want));
    }

    private static void doubleAt(String what, TideDials x, int table, int i, double want) {
        due(what, x.number(table, 1, i), bits(want));
    }

    private static void newObject() {
        TideDials x = new TideDials();
        for (int what = 0; what <= 8; what++) {
            due("1: count(" + what + ")", x.count(what), 0);
        }
        due("1: no dial", x.hand(0, 1), 0);
        due("1: no dial to turn", x.turn(0, 1, 0), UNKNOWN);
        for (int t = 0; t < 6; t++) {
            due("1: table missing", x.drop(t), 0);
        }
        due("1: train missing", x.dropTrain(), 0);
        due("1: constants", 100 * TideDials.UNKNOWN + 10 * TideDials.OUTSIDE + TideDials.FULL, -124);
    }

    private static void dial() {
        TideDials x = new TideDials();
        due("2: kind -1", x.dial(-1, 1, 0), OUTSIDE);
        due("2: kind 2", x.dial(2, 1, 0), OUTSIDE);
        due("2: e 41", x.dial(0, 1, 41), OUTSIDE);
        due("2: e -41", x.dial(1, 1, -41), OUTSIDE);
        due("2: round 0", x.dial(0, 0, 40), OUTSIDE);
        due("2: round below", x.dial(1, Integer.MIN_VALUE, -40), OUTSIDE);
        due("2: refused, none made", x.count(0), 0);
        due("2: least", x.dial(0, 1, -40), 0);
        due("2: float nearest", x.dial(0, 16777217, 0), 1);
        due("2: double just that", x.dial(1, 16777217, 0), 2);
        due("2: most", x.dial(0, Integer.MAX_VALUE, 40), 3);
        due("2: least round", x.hand(0, 1), bits(0x1p-40f));
        due("2: rounded", x.hand(1, 1), bits(16777216f));
        due("2: not rounded", x.hand(2, 1), bits(16777217.0));
        due("2: most round", x.hand(3, 1), bits(0x1p71f));
        due("2: hand", x.hand(2, 0), bits(0.0));
        for (int k = 4; k < 8; k++) {
            due("2: number", x.dial(k & 1, 3, k), k);
        }
        due("2: full", x.dial(0, 1, 0), FULL);
        due("2: outside ahead of full", x.dial(0, 0, 0), OUTSIDE);
        due("2: kind ahead of full", x.dial(2, 1, 0), OUTSIDE);
        due("2: still eight", x.count(0), 8);
    }

    private static void turn() {
        TideDials x = new TideDials();
        x.dial(0, 10, 0);
        x.dial(1, 10, 0);
        due("3: unknown", x.turn(2, 1, 0), UNKNOWN);
        due("3: unknown below", x.turn(-1, 1, 0), UNKNOWN);
        due("3: unknown ahead of outside", x.turn(2, 1, 41), UNKNOWN);
        due("3: outside", x.turn(0, 1, 41), OUTSIDE);
        due("3: outside below", x.turn(1, 1, -41), OUTSIDE);
        for (int k = 0; k < 2; k++) {
            due("3: turned", x.turn(k, 7, 0), 1);
            due("3: turned again", x.turn(k, 7, -1), 1);
        }
        due("3: float hand", x.hand(0, 0), bits(0.5f));
        due("3: double hand", x.hand(1, 0), bits(0.5));
        x.turn(0, 1, -40);
        x.turn(1, 1, -40);
        due("3: float too small a step", x.hand(0, 0), bits(0.5f));
        due("3: double small step", x.hand(1, 0), bits(0.5 + 0x1p-40));
        x.turn(0, -42, -2);
        due("3: back past 0.0", x.hand(0, 0), bits(-10f % 10f));
        due("3: minus nothing", x.hand(0, 0), Integer.MIN_VALUE);
        x.turn(0, 0, 0);
        due("3: -0.0 and 0.0", x.hand(0, 0), 0);
        x.turn(0, -21, 0);
        due("3: sign of the sum", x.hand(0, 0), bits(-1f));
        double d = 0.5 + 0x1p-40;
        d = (d + Integer.MAX_VALUE * 0x1p40) % 10.0;
        x.turn(1, Integer.MAX_VALUE, 40);
        due("3: far", x.hand(1, 0), bits(d));
        x.turn(0, 33554435, 0);
        due("3: float given is nearest", x.hand(0, 0), bits((-1f + 33554436f) % 10f));
        due("3: no finding", x.count(8), 0);
    }

    private static void hand() {
        TideDials x = new TideDials();
        x.dial(0, 5, -1);
        x.dial(1, 5, -1);
        due("4: unknown", x.hand(2, 0), 0);
        due("4: unknown below", x.hand(-1, 1), 0);
        due("4: outside", x.hand(0, 2), 0);
        due("4: outside below", x.hand(0, -1), 0);
        due("4: float round", x.hand(0, 1), bits(2.5f));
        due("4: double round", x.hand(1, 1), bits(2.5));
        x.turn(0, -1, 0);
        x.turn(1, -1, 0);
        due("4: float bits as an int", x.hand(0, 0), (long) Float.floatToIntBits(-1f));
        due("4: double bits", x.hand(1, 0), bits(-1.0));
        x.turn(1, -3, -1);
        due("4: -0.0", x.hand(1, 0), Long.MIN_VALUE);
    }

    private static void table() {
        TideDials x = new TideDials();
        due("5: unknown", x.table(6, 0, 1), UNKNOWN);
        due("5: unknown below", x.table(-1, 5, -5), UNKNOWN);
        due("5: kind", x.table(0, 2, 1), OUTSIDE);
        due("5: kind ahead of size", x.table(0, -1, -1), OUTSIDE);
        due("5: too many", x.table(0, 0, 13), OUTSIDE);
        due("5: size", x.table(0, 0, -1), SIZE);
        due("5: size far", x.table(5, 1, Integer.MIN_VALUE), SIZE);
        due("5: sizes counted", x.count(6), 2);
        due("5: none yet", x.count(1), 0);
        due("5: most", x.table(0, 0, 12), 1);
        due("5: none at all", x.table(5, 1, 0), 1);
        due("5: last place", x.put(0, 0, 11, 7, 0), 1);
        due("5: after the last", x.put(0, 0, 12, 7, 0), BEYOND);
        due("5: no first", x.put(5, 1, 0, 7, 0), BEYOND);
        due("5: refused", x.table(0, 1, -1), SIZE);
        floatAt("5: a refusal changes nothing", x, 0, 11, 7f);
        x.put(0, 0, 0, 3, 0);
        due("5: anew", x.table(0, 0, 12), 1);
        floatAt("5: 0.0 anew", x, 0, 11, 0f);
        floatAt("5: 0.0 anew at first", x, 0, 0, 0f);
        due("5: the other kind", x.table(0, 1, 3), 1);
        doubleAt("5: 0.0 at first", x, 0, 2, 0.0);
        due("5: fewer places", x.square(0, 1, 3), BEYOND);
        due("5: tables", x.count(1), 2);
    }

    private static void drop() {
        TideDials x = new TideDials();
        due("6: unknown", x.drop(6), UNKNOWN);
        due("6: unknown below", x.drop(-1), UNKNOWN);
        due("6: not there", x.drop(3), 0);
        x.table(3, 1, 2);
        due("6: there", x.drop(3), 1);
        due("6: gone", x.drop(3), 0);
        due("6: missing", x.put(3, 1, 0, 1, 0), NOTHING);
        due("6: taken for each kind", x.put(3, 0, 0, 1, 0), NOTHING);
        x.table(2, 0, 0);
        due("6: an empty one is there", x.drop(2), 1);
        due("6: no finding of its own", x.count(3), 2);
    }

    private static void put() {
        TideDials x = new TideDials();
        x.table(0, 0, 2);
        x.table(1, 1, 2);
        due("7: unknown", x.put(6, 9, 9, 1, 99), UNKNOWN);
        due("7: unknown below", x.put(-1, 0, 0, 1, 0), UNKNOWN);
        due("7: kind", x.put(0, 2, 0, 1, 0), OUTSIDE);
        due("7: e", x.put(0, 0, 0, 1, 41), OUTSIDE);
        due("7: e ahead of cast", x.put(0, 1, 0, 1, -41), OUTSIDE);
        due("7: cast", x.put(0, 1, 0, 1, 0), CAST);
        due("7: cast ahead of beyond", x.put(1, 0, 9, 1, 0), CAST);
        due("7: nothing ahead of beyond", x.put(2, 0, -1, 1, 0), NOTHING);
        due("7: beyond", x.put(0, 0, 2, 1, 0), BEYOND);
        due("7: beyond below", x.put(1, 1, -1, 1, 0), BEYOND);
        due("7: beyond far", x.put(1, 1, Integer.MIN_VALUE, 1, 0), BEYOND);
        due("7: float", x.put(0, 0, 1, 16777217, -40), 1);
        due("7: double", x.put(1, 1, 1, 16777217, -40), 1);
        floatAt("7: nearest", x, 0, 1, 0x1p-16f);
        doubleAt("7: just that", x, 1, 1, 16777217 * 0x1p-40);
        x.put(1, 1, 0, Integer.MIN_VALUE, 40);
        doubleAt("7: far below", x, 1, 0, -0x1p71);
        x.put(1, 1, 0, 0, -40);
        doubleAt("7: 0.0", x, 1, 0, 0.0);
        x.put(0, 0, 0, 16777219, 1);
        floatAt("7: ties to the even one", x, 0, 0, 33554440f);
        due("7: casts", x.count(5), 2);
        due("7: nothings", x.count(3), 1);
        due("7: beyonds", x.count(4), 3);
    }

    private static String thrown(TideDials x, int table, int kind, int i) {
        try {
            return "" + x.number(table, kind, i);
        } catch (RuntimeException e) {
            return e.getClass().getSimpleName();
        }
    }

    private static void throwsDue(TideDials x, int table, int kind, int i, String want) {
        String got = thrown(x, table, kind, i);
        if (!got.equals(want)) {
            wrong++;
            System.out.println("8: number(" + table + ", " + kind + ", " + i + ") " + got + ", due is " + want);
        }
    }

    private static void number() {
        TideDials x = new TideDials();
        x.table(0, 0, 2);
        x.table(1, 1, 2);
        throwsDue(x, 6, 0, 0, "0");
        throwsDue(x, -1, 0, 0, "0");
        throwsDue(x, 0, 2, 0, "0");
        throwsDue(x, 2, -1, 0, "0");
        throwsDue(x, 2, 0, 0, "NullPointerException");
        throwsDue(x, 2, 1, -1, "NullPointerException");
        throwsDue(x, 0, 1, 0, "ClassCastException");
        throwsDue(x, 1, 0, 7, "ClassCastException");
        throwsDue(x, 0, 0, 2, "ArrayIndexOutOfBoundsException");
        throwsDue(x, 1, 1, -1, "ArrayIndexOutOfBoundsException");
        x.put(0, 0, 1, -3, -1);
        x.put(1, 1, 1, -3, -1);
        throwsDue(x, 0, 0, 1, "" + bits(-1.5f));
        throwsDue(x, 1, 1, 1, "" + bits(-1.5));
        for (int what = 3; what <= 8; what++) {
            due("8: number counts none", x.count(what), 0);
        }
    }

    /** Numbers below the first normal one, and 0.0: place 0 is squared down, place 1 with a minus by LEFT. */
    private static void smallBits() {
        TideDials x = new TideDials();
        x.table(0, 0, 2);
        x.table(1, 1, 2);
        x.put(0, 0, 0, 3, -37);
        x.put(1, 1, 0, 3, -35);
        float f = 3 * 0x1p-37f;
        double d = 3 * 0x1p-35;
        for (int k = 0; k < 6; k++) {
            x.square(0, 0, 0);
            x.square(1, 1, 0);
            f *= f;
            d *= d;
            floatAt("8: small float " + k, x, 0, 0, f);
            doubleAt("8: small double " + k, x, 1, 0, d);
            if (f > 0) {
                x.put(0, 0, 1, -5, 0);
                due("8: left of a small float", x.left(0, 0, 1, 0, 0), 1);
                floatAt("8: small float with a minus " + k, x, 0, 1, -5f % f);
            }
            if (d > 0) {
                x.put(1, 1, 1, -5, 0);
                due("8: left of a small double", x.left(1, 1, 1, 1, 0), 1);
                doubleAt("8: small double with a minus " + k, x, 1, 1, -5.0 % d);
            }
        }
        due("8: came to an end", (long) (f + d), 0);
    }

    private static void left() {
        TideDials x = new TideDials();
        x.table(0, 0, 3);
        x.table(1, 1, 3);
        x.table(2, 0, 1);
        due("9: unknown", x.left(6, 5, 0, 0, 0), UNKNOWN);
        due("9: other unknown", x.left(0, 5, 0, -1, 0), UNKNOWN);
        due("9: outside", x.left(0, 2, 0, 0, 0), OUTSIDE);
        due("9: cast", x.left(0, 1, 0, 1, 0), CAST);
        due("9: cast of the other ahead of nothing", x.left(5, 0, 0, 1, 0), CAST);
        due("9: cast of the other ahead of beyond", x.left(0, 0, 9, 1, 0), CAST);
        due("9: nothing", x.left(5, 0, 0, 0, 9), NOTHING);
        due("9: beyond ahead of the other's nothing", x.left(0, 0, 3, 5, 0), BEYOND);
        due("9: the other's nothing", x.left(0, 0, 2, 5, 9), NOTHING);
        due("9: the other's beyond", x.left(0, 0, 2, 2, 1), BEYOND);
        due("9: zero", x.left(0, 0, 0, 0, 1), ZERO);
        x.put(0, 0, 0, -55, -1);
        x.put(0, 0, 1, 7, 0);
        x.put(2, 0, 0, -1, 1);
        due("9: left", x.left(0, 0, 0, 0, 1), 1);
        floatAt("9: with the sign of x", x, 0, 0, -6.5f);
        due("9: of another table", x.left(0, 0, 1, 2, 0), 1);
        floatAt("9: y's sign does not count", x, 0, 1, 1f);
        due("9: by itself", x.left(0, 0, 0, 0, 0), 1);
        floatAt("9: -0.0", x, 0, 0, -0f);
        due("9: of -0.0", x.left(0, 0, 0, 2, 0), 1);
        floatAt("9: stays -0.0", x, 0, 0, -0f);
        due("9: by -0.0", x.left(0, 0, 1, 0, 0), ZERO);
        floatAt("9: zero changes nothing", x, 0, 1, 1f);
        endlessLeft(x);
        due("9: zeros", x.count(8), 4);
    }

    private static void endlessLeft(TideDials x) {
        x.put(1, 1, 0, 1, 40);
        for (int k = 0; k < 5; k++) {
            x.square(1, 1, 0);
        }
        x.put(1, 1, 1, -13, -2);
        doubleAt("9: endless", x, 1, 0, Double.POSITIVE_INFINITY);
        due("9: by what is endless", x.left(1, 1, 1, 1, 0), 1);
        doubleAt("9: it is x", x, 1, 1, -3.25);
        due("9: of what is endless", x.left(1, 1, 0, 1, 1), ZERO);
        due("9: endless by endless", x.left(1, 1, 0, 1, 0), ZERO);
        doubleAt("9: still endless", x, 1, 0, Double.POSITIVE_INFINITY);
    }

    private static void farLeft() {
        TideDials x = new TideDials();
        x.table(0, 1, 3);
        double far = Integer.MAX_VALUE * 0x1p29;
        x.put(0, 1, 0, Integer.MAX_VALUE, 29);
        for (int k = 0; k < 4; k++) {
            x.square(0, 1, 0);
            far *= far;
        }
        doubleAt("9: far", x, 0, 0, far);
        double small = 3 * 0x1p-35;
        x.put(0, 1, 1, 3, -35);
        for (int k = 0; k < 5; k++) {
            x.square(0, 1, 1);
            small *= small;
        }
        doubleAt("9: least", x, 0, 1, small);
        x.put(0, 1, 2, 7, -3);
        due("9: far by an ordinary one", x.left(0, 1, 0, 0, 2), 1);
        doubleAt("9: exact", x, 0, 0, far % 0.875);
        x.put(0, 1, 0, Integer.MAX_VALUE, 30);
        due("9: by the least", x.left(0, 1, 0, 0, 1), 1);
        doubleAt("9: exact to the least", x, 0, 0, (Integer.MAX_VALUE * 0x1p30) % small);
    }

    private static void square() {
        TideDials x = new TideDials();
        x.table(0, 0, 2);
        x.table(1, 1, 2);
        due("10: unknown", x.square(6, 3, 0), UNKNOWN);
        due("10: outside", x.square(0, 2, 0), OUTSIDE);
        due("10: cast", x.square(0, 1, 9), CAST);
        due("10: nothing", x.square(3, 1, 9), NOTHING);
        due("10: beyond", x.square(1, 1, 2), BEYOND);
        due("10: beyond below", x.square(0, 0, -1), BEYOND);
        due("10: findings are counted", 100 * x.count(3) + 10 * x.count(4) + x.count(5), 121);
        x.put(0, 0, 0, -16777215, -2);
        x.put(1, 1, 0, -16777215, -2);
        due("10: float", x.square(0, 0, 0), 1);
        due("10: double", x.square(1, 1, 0), 1);
        floatAt("10: as floats", x, 0, 0, -4194303.75f * -4194303.75f);
        doubleAt("10: as doubles", x, 1, 0, 4194303.75 * 4194303.75);
        float f = 4194303.75f * 4194303.75f;
        for (int k = 0; k < 3; k++) {
            f *= f;
            due("10: again", x.square(0, 0, 0), 1);
            floatAt("10: towards the endless", x, 0, 0, f);
        }
        floatAt("10: endless", x, 0, 0, Float.POSITIVE_INFINITY);
        due("10: no zero", x.count(8), 0);
    }

    private static void cross() {
        TideDials x = new TideDials();
        x.table(0, 0, 2);
        x.table(1, 1, 2);
        due("11: unknown", x.cross(6, 0, 1, 0, true), UNKNOWN);
        due("11: other unknown", x.cross(0, 0, -1, 0, true), UNKNOWN);
        due("11: read cast", x.cross(1, 9, 5, 0, true), CAST);
        due("11: read nothing ahead of written cast", x.cross(5, 0, 0, 0, true), NOTHING);
        due("11: read beyond ahead of written cast", x.cross(0, 2, 0, 0, true), BEYOND);
        due("11: written cast", x.cross(0, 0, 0, 9, true), CAST);
        due("11: written nothing", x.cross(0, 0, 5, 9, true), NOTHING);
        due("11: written beyond", x.cross(0, 0, 1, 2, true), BEYOND);
        due("11: not wide, read cast", x.cross(0, 0, 1, 0, false), CAST);
        due("11: not wide, written cast", x.cross(1, 0, 1, 0, false), CAST);
        due("11: not wide, written beyond", x.cross(1, 0, 0, -1, false), BEYOND);
        due("11: findings are counted", 100 * x.count(3) + 10 * x.count(4) + x.count(5), 234);
        x.put(0, 0, 1, -7, -3);
        due("11: wide", x.cross(0, 1, 1, 0, true), 1);
        doubleAt("11: float made a double", x, 1, 0, -0.875);
        floatAt("11: read stays", x, 0, 1, -0.875f);
        x.put(1, 1, 1, 16777219, 0);
        due("11: not wide", x.cross(1, 1, 0, 0, false), 1);
        floatAt("11: nearest float", x, 0, 0, 16777220f);
        doubleAt("11: read stays too", x, 1, 1, 16777219.0);
        x.put(1, 1, 1, 1, 40);
        x.square(1, 1, 1);
        x.square(1, 1, 1);
        due("11: too big", x.cross(1, 1, 0, 0, false), 1);
        floatAt("11: comes out endless", x, 0, 0, Float.POSITIVE_INFINITY);
        due("11: endless is wide too", x.cross(0, 0, 1, 1, true), 1);
        doubleAt("11: endless as a double", x, 1, 1, Double.POSITIVE_INFINITY);
        smallCross(x);
    }

    private static void smallCross(TideDials x) {
        double d = 3 * 0x1p-38;
        x.put(1, 1, 0, 3, -38);
        for (int k = 0; k < 2; k++) {
            x.square(1, 1, 0);
            d *= d;
        }
        x.cross(1, 0, 0, 0, false);
        floatAt("11: below the normal floats", x, 0, 0, (float) d);
        x.square(1, 1, 0);
        d *= d;
        x.put(1, 1, 1, -5, 0);
        x.left(1, 1, 1, 1, 0);
        doubleAt("11: small with a minus", x, 1, 1, -5.0 % d);
        x.cross(1, 1, 0, 0, false);
        floatAt("11: comes to -0.0", x, 0, 0, (float) (-5.0 % d));
        due("11: it is -0.0", x.number(0, 0, 0), Integer.MIN_VALUE);
    }

    private static void whole() {
        TideDials x = new TideDials();
        x.table(0, 0, 2);
        x.table(1, 1, 2);
        due("12: unknown", x.whole(6, 0, 0, 0), -1 - FAR);
        due("12: kind", x.whole(0, 2, 0, 0), -2 - FAR);
        due("12: to 5", x.whole(0, 0, 0, 5), -2 - FAR);
        due("12: to -1", x.whole(0, 1, 0, -1), -2 - FAR);
        due("12: cast", x.whole(0, 1, 9, 0), CAST - FAR);
        due("12: nothing", x.whole(4, 1, 9, 0), NOTHING - FAR);
        due("12: beyond", x.whole(1, 1, 2, 0), BEYOND - FAR);
        due("12: findings are counted", 100 * x.count(3) + 10 * x.count(4) + x.count(5), 111);
        int[] ns = {0, 5, -5, 255, -257, 65535, 131073, -131077, Integer.MAX_VALUE, Integer.MIN_VALUE};
        int[] es = {-40, -1, 0, 3, 17, 31, 40};
        for (int n : ns) {
            for (int e : es) {
                float f = (float) (n * Math.pow(2, e));
                double d = n * Math.pow(2, e);
                x.put(0, 0, 1, n, e);
                x.put(1, 1, 1, n, e);
                long[] ofFloat = {(int) f, (long) f, (short) f, (char) f, (byte) f};
                long[] ofDouble = {(int) d, (long) d, (short) d, (char) d, (byte) d};
                for (int to = 0; to < 5; to++) {
                    due("12: whole of " + f + " to " + to, x.whole(0, 0, 1, to), ofFloat[to]);
                    due("12: whole of " + d + " to " + to, x.whole(1, 1, 1, to), ofDouble[to]);
                }
            }
        }
    }

    private static void ofLong() {
        TideDials x = new TideDials();
        x.table(0, 0, 2);
        x.table(1, 1, 2);
        due("13: unknown", x.ofLong(6, 3, 0, 1), UNKNOWN);
        due("13: outside", x.ofLong(0, 2, 0, 1), OUTSIDE);
        due("13: cast", x.ofLong(1, 0, 9, 1), CAST);
        due("13: nothing", x.ofLong(2, 0, 9, 1), NOTHING);
        due("13: beyond", x.ofLong(1, 1, 2, 1), BEYOND);
        due("13: beyond below", x.ofLong(0, 0, -1, 1), BEYOND);
        due("13: findings are counted", 100 * x.count(3) + 10 * x.count(4) + x.count(5), 121);
        long[] all = {0, 1, -1, 16777216, 16777217, -16777219, 1L << 53, (1L << 53) + 1, Long.MAX_VALUE,
            Long.MIN_VALUE, Long.MAX_VALUE - 1, 9223372036854774784L, (1L << 60) + (1L << 36) + 1,
            -(1L << 60) - (1L << 36) - 1, 1L << 62, 123456789};
        for (long v : all) {
            due("13: a float tells " + v, x.ofLong(0, 0, 1, v), (long) (float) v == v ? 1 : 0);
            floatAt("13: the float of " + v, x, 0, 1, (float) v);
            due("13: a double tells " + v, x.ofLong(1, 1, 1, v), (long) (double) v == v ? 1 : 0);
            doubleAt("13: the double of " + v, x, 1, 1, (double) v);
        }
        floatAt("13: no other place", x, 0, 0, 0f);
        doubleAt("13: no other place of doubles", x, 1, 0, 0.0);
    }

    private static void through() {
        TideDials x = new TideDials();
        x.dial(0, 7, 0);
        x.dial(1, 7, 0);
        x.table(0, 0, 3);
        x.table(1, 1, 4);
        due("14: unknown dial", x.through(2, 0), UNKNOWN);
        due("14: unknown table", x.through(0, 6), UNKNOWN);
        due("14: nothing", x.through(0, 5), NOTHING);
        due("14: it is counted", x.count(3), 1);
        x.put(0, 0, 0, 13, -1);
        x.put(0, 0, 1, 5, -2);
        x.put(0, 0, 2, -1, 3);
        due("14: floats, float dial", x.through(0, 0), 3);
        due("14: turned", x.hand(0, 0), bits(((6.5f + 1.25f) % 7f - 8f) % 7f));
        due("14: floats, double dial", x.through(1, 0), 3);
        due("14: turned as doubles", x.hand(1, 0), bits(((6.5 + 1.25) % 7.0 - 8.0) % 7.0));
        x.put(1, 1, 0, 1, -2);
        x.put(1, 1, 1, 33554433, -24);
        due("14: doubles, float dial", x.through(0, 1), 4);
        due("14: nearest floats", x.hand(0, 0), bits(-0.25f + 0.25f + (float) (33554433 * 0x1p-24)));
        due("14: doubles, double dial", x.through(1, 1), 4);
        due("14: doubles as they are", x.hand(1, 0), bits(-0.25 + 0.25 + 33554433 * 0x1p-24));
        x.table(2, 1, 0);
        due("14: no places", x.through(0, 2), 0);
        endlessThrough();
    }

    private static void endlessThrough() {
        TideDials x = new TideDials();
        x.dial(0, 7, 0);
        x.dial(1, 7, 0);
        x.table(1, 1, 4);
        x.put(1, 1, 0, 3, 0);
        x.put(1, 1, 1, 5, 0);
        x.put(1, 1, 2, 1, 40);
        x.square(1, 1, 2);
        x.square(1, 1, 2);
        x.put(1, 1, 3, 1, 0);
        due("14: too big for a float", x.through(0, 1), 2);
        due("14: the turns till then stand", x.hand(0, 0), bits(1f));
        due("14: it counts", x.count(8), 1);
        due("14: not too big for a double", x.through(1, 1), 4);
        due("14: all the way", x.hand(1, 0), bits((1.0 + 0x1p160) % 7.0 + 1.0));
        due("14: no more count", x.count(8), 1);
        for (int k = 0; k < 3; k++) {
            x.square(1, 1, 2);
        }
        due("14: endless", x.through(1, 1), 2);
        due("14: it counts too", x.count(8), 2);
    }

    private static void often() {
        TideDials x = new TideDials();
        x.table(0, 0, 4);
        x.table(1, 1, 4);
        due("15: unknown", x.often(6, 3, 0, 0), -1 - FAR);
        due("15: outside", x.often(0, 2, 0, 0), -2 - FAR);
        due("15: cast", x.often(0, 1, 9, 9), CAST - FAR);
        due("15: nothing", x.often(5, 1, 9, 9), NOTHING - FAR);
        due("15: beyond of j", x.often(0, 0, 0, 4), BEYOND - FAR);
        due("15: beyond of i", x.often(0, 0, -1, 0), BEYOND - FAR);
        due("15: one finding for both", x.often(0, 0, 9, 9), BEYOND - FAR);
        due("15: beyonds", x.count(4), 3);
        due("15: zero", x.often(0, 0, 0, 1), ZERO - FAR);
        x.put(0, 0, 0, 3, -1);
        x.put(0, 0, 1, -100, 0);
        due("15: floats", x.often(0, 0, 0, 1), -66);
        due("15: the other way", x.often(0, 0, 1, 0), 0);
        due("15: 0.0 in it", x.often(0, 0, 0, 2), 0);
        due("15: by 0.0", x.often(0, 0, 2, 0), ZERO - FAR);
        floatAt("15: nothing is changed", x, 0, 1, -100f);
        x.put(0, 0, 0, 3, -40);
        x.put(0, 0, 1, 2000000011, 0);
        float f = 2000000011f;
        float g = 3 * 0x1p-40f;
        due("15: as floats", x.often(0, 0, 0, 1), (long) ((f - f % g) / g));
        due("15: more than a long, as floats", x.often(0, 0, 0, 1), Long.MAX_VALUE);
        x.put(0, 0, 0, 3, -20);
        float h = 3 * 0x1p-20f;
        due("15: the times are a float", x.often(0, 0, 0, 1), (long) ((f - f % h) / h));
        x.put(1, 1, 0, 3, -20);
        x.put(1, 1, 1, 2000000011, 0);
        double d = 2000000011.0;
        double e = 3 * 0x1p-20;
        due("15: as doubles", x.often(1, 1, 0, 1), (long) ((d - d % e) / e));
        x.put(1, 1, 0, 1, -40);
        x.put(1, 1, 1, Integer.MIN_VALUE, 40);
        due("15: more than a long", x.often(1, 1, 0, 1), Long.MIN_VALUE);
        x.put(1, 1, 2, 1, 40);
        for (int k = 0; k < 5; k++) {
            x.square(1, 1, 2);
        }
        due("15: endless j", x.often(1, 1, 0, 2), ZERO - FAR);
        due("15: endless i", x.often(1, 1, 2, 0), 0);
        due("15: both endless", x.often(1, 1, 2, 2), ZERO - FAR);
        due("15: zeros", x.count(8), 4);
    }

    private static void train() {
        TideDials x = new TideDials();
        due("16: too many", x.train(true, 7), OUTSIDE);
        due("16: size", x.train(false, -1), SIZE);
        due("16: size far", x.train(true, Integer.MIN_VALUE), SIZE);
        due("16: sizes counted", x.count(6), 2);
        due("16: still missing", x.dropTrain(), 0);
        due("16: most", x.train(true, 6), 1);
        due("16: missing at first", x.strike(5), NOTHING);
        due("16: beyond", x.strike(6), BEYOND);
        due("16: fine alone", x.wheel(5, 0, 1), STORE);
        due("16: fine", x.wheel(5, 1, 1), 1);
        due("16: refused", x.train(false, -1), SIZE);
        due("16: a refusal changes nothing", x.strike(5), 17);
        due("16: anew", x.train(false, 6), 1);
        due("16: missing anew", x.strike(5), NOTHING);
        due("16: no wheels", x.count(2), 0);
        due("16: any", x.wheel(5, 0, 1), 1);
        due("16: none", x.train(false, 0), 1);
        due("16: beyond at once", x.wheel(0, 0, 1), BEYOND);
    }

    private static void dropTrain() {
        TideDials x = new TideDials();
        due("17: missing", x.dropTrain(), 0);
        x.train(true, 0);
        due("17: there", x.dropTrain(), 1);
        x.train(false, 2);
        x.wheel(0, 0, 3);
        due("17: there too", x.dropTrain(), 1);
        due("17: gone", x.dropTrain(), 0);
        due("17: no wheels", x.count(2), 0);
        due("17: nothing", x.strike(0), NOTHING);
    }

    private static void wheel() {
        TideDials x = new TideDials();
        due("18: nothing", x.wheel(0, 0, 1), NOTHING);
        due("18: sort ahead of nothing", x.wheel(0, 2, 1), OUTSIDE);
        x.train(true, 2);
        due("18: sort", x.wheel(0, -1, 1), OUTSIDE);
        due("18: no teeth", x.wheel(0, 1, 0), OUTSIDE);
        due("18: too many teeth", x.wheel(9, 1, 201), OUTSIDE);
        due("18: beyond", x.wheel(2, 1, 1), BEYOND);
        due("18: beyond ahead of store", x.wheel(-1, 0, 1), BEYOND);
        due("18: fine", x.wheel(0, 1, 200), 1);
        due("18: store", x.wheel(0, 0, 1), STORE);
        due("18: the old one stays", x.strike(0), 2007);
        due("18: in its stead", x.wheel(0, 1, 4), 1);
        due("18: the new one", x.strike(0), 47);
        due("18: one wheel", x.count(2), 1);
        x.train(false, 2);
        due("18: plain", x.wheel(1, 0, 200), 1);
        due("18: fine among any", x.wheel(0, 1, 1), 1);
        due("18: plain after fine", x.wheel(0, 0, 2), 1);
        due("18: plain now", x.strike(0), 20);
        due("18: stores", x.count(7), 1);
    }

    private static void strike() {
        TideDials x = new TideDials();
        due("19: no train", x.strike(0), NOTHING);
        due("19: no train, whatever place", x.strike(-1), NOTHING);
        x.train(false, 3);
        x.wheel(0, 0, 13);
        x.wheel(1, 1, 13);
        due("19: plain", x.strike(0), 130);
        due("19: fine", x.strike(1), 137);
        due("19: no wheel", x.strike(2), NOTHING);
        due("19: beyond", x.strike(3), BEYOND);
        due("19: beyond below", x.strike(-1), BEYOND);
        due("19: nothings", x.count(3), 3);
    }

    private static void gear() {
        TideDials x = new TideDials();
        due("20: unknown ahead of nothing", x.gear(0, 0), UNKNOWN);
        x.dial(0, 100, 0);
        x.dial(1, 100, 0);
        due("20: no train", x.gear(0, 9), NOTHING);
        x.train(false, 3);
        x.wheel(0, 0, 7);
        x.wheel(1, 1, 200);
        due("20: no wheel", x.gear(0, 2), NOTHING);
        due("20: beyond", x.gear(0, 3), BEYOND);
        due("20: beyond below", x.gear(1, -1), BEYOND);
        due("20: findings are counted", 10 * x.count(3) + x.count(4), 22);
        due("20: hand 0.0", x.gear(0, 0), 1);
        due("20: stays 0.0", x.hand(0, 0), 0);
        x.turn(0, -33333333, -20);
        x.turn(1, -33333333, -20);
        float f = (float) (-33333333 * 0x1p-20);
        double d = -33333333 * 0x1p-20;
        for (int k = 0; k < 6; k++) {
            int teeth = k % 2 == 0 ? 7 : 200;
            due("20: geared", x.gear(0, k % 2), 1);
            due("20: geared too", x.gear(1, k % 2), 1);
            f = f * teeth % 100f;
            d = d * teeth % 100.0;
            due("20: float", x.hand(0, 0), bits(f));
            due("20: double", x.hand(1, 0), bits(d));
        }
        due("20: round stays", x.hand(0, 1), bits(100f));
    }

    private static void count() {
        TideDials x = new TideDials();
        due("21: outside", x.count(9), OUTSIDE);
        due("21: outside below", x.count(-1), OUTSIDE);
        x.dial(0, 1, 0);
        x.dial(1, 1, 0);
        x.table(0, 0, 1);
        x.table(5, 1, 0);
        x.table(3, 1, 1);
        x.train(true, 6);
        x.wheel(0, 1, 1);
        x.wheel(5, 1, 1);
        due("21: dials", x.count(0), 2);
        due("21: tables", x.count(1), 3);
        due("21: wheels", x.count(2), 2);
        x.strike(1);
        x.square(5, 1, 0);
        x.square(0, 0, 1);
        x.whole(0, 1, 0, 0);
        x.often(0, 1, 0, 0);
        x.square(3, 0, 0);
        for (int k = 0; k < 4; k++) {
            x.table(0, 0, -1 - k);
        }
        for (int k = 0; k < 5; k++) {
            x.wheel(k, 0, 1);
        }
        for (int k = 0; k < 6; k++) {
            x.left(0, 0, 0, 0, 0);
        }
        for (int k = 1; k <= 6; k++) {
            due("21: finding " + k, x.count(2 + k), k);
        }
        x.put(9, 0, 0, 0, 0);
        x.put(0, 9, 0, 0, 0);
        due("21: refusals are no findings", x.count(3) + x.count(4) + x.count(5), 6);
    }

    private static void clear() {
        TideDials x = new TideDials();
        due("22: none", x.clear(), 0);
        for (int k = 0; k < 8; k++) {
            x.dial(0, 5, 0);
        }
        x.turn(0, 3, 0);
        x.table(0, 0, 2);
        x.put(0, 0, 1, 5, 0);
        x.train(true, 2);
        x.wheel(0, 1, 5);
        x.strike(1);
        x.strike(2);
        x.square(0, 1, 0);
        x.table(1, 0, -1);
        x.wheel(0, 0, 1);
        x.left(0, 0, 0, 0, 0);
        due("22: eight", x.clear(), 8);
        for (int what = 0; what <= 8; what++) {
            due("22: count(" + what + ")", x.count(what), 0);
        }
        due("22: no dial", x.turn(0, 1, 0), UNKNOWN);
        due("22: no table", x.drop(0), 0);
        due("22: no train", x.dropTrain(), 0);
        due("22: a dial again", x.dial(1, 9, 0), 0);
        due("22: its hand", x.hand(0, 0), 0);
        due("22: its round", x.hand(0, 1), bits(9.0));
        x.table(0, 0, 2);
        floatAt("22: 0.0 again", x, 0, 1, 0f);
        x.train(false, 2);
        due("22: no wheel again", x.strike(0), NOTHING);
        due("22: one", x.clear(), 1);
    }

    public static void main(String[] args) {
        newObject();
        dial();
        turn();
        hand();
        table();
        drop();
        put();
        number();
        smallBits();
        left();
        farLeft();
        square();
        cross();
        whole();
        ofLong();
        through();
        often();
        train();
        dropTrain();
        wheel();
        strike();
        gear();
        count();
        clear();
        System.out.println(wrong == 0 ? "all promises hold" : wrong + " answers are not as due");
        if (wrong != 0) {
            System.exit(1);
        }
    }
}
