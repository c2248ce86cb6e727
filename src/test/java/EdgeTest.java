import java.util.ArrayList;
import java.util.Arrays;
import java.util.LinkedHashMap;
import java.util.List;
import java.util.Map;

/**
 * Sentence by sentence, the boundary cases that the document names: just inside a bound, just outside it, and what a
 * refused call or a FINDING leaves as it was. Each call here is made on one of two objects of the same past; what the
 * two tell afterwards may differ in the lines that are given, and in nothing else.
 */
public final class EdgeTest {
    private static final int UNKNOWN = -1, OUTSIDE = -2, FULL = -4;
    private static final int NOTHING = -21, BEYOND = -22, CAST = -23, SIZE = -24, STORE = -25, ZERO = -26;
    private static final long FAR = 4000000000000000000L;
    private static final int LEAST = Integer.MIN_VALUE, MOST = Integer.MAX_VALUE;
    private static final int[] NO_KIND = {-1, 2, LEAST, MOST};
    private static final int[] NO_POWER = {-41, 41, LEAST, MOST};
    private static final int[] NO_TABLE = {-1, 6, LEAST, MOST};
    /** In the past that most tests have, with two DIALS. */
    private static final int[] NO_DIAL = {-1, 2, 7, 8, LEAST, MOST};
    private static final float ENDLESS = Float.POSITIVE_INFINITY;

    private static int wrong = 0;
    private static int checked = 0;

    private interface Call {
        long on(TideDials x);
    }

    private interface Past {
        void of(TideDials x);
    }

    private static void due(String what, Object got, Object want) {
        checked++;
        if (!got.equals(want)) {
            wrong++;
            System.out.println(what + ": got " + got + ", due is " + want);
        }
    }

    // ---- what an object tells of itself

    private static String thrown(TideDials x, int table, int kind, int i) {
        try {
            x.number(table, kind, i);
            return "";
        } catch (ClassCastException e) {
            return "CAST";
        } catch (NullPointerException e) {
            return "NOTHING";
        } catch (ArrayIndexOutOfBoundsException e) {
            return "BEYOND";
        }
    }

    private static String numberText(TideDials x, int table, int kind, int i) {
        long bits = x.number(table, kind, i);
        if (kind == 1) {
            return "" + Double.longBitsToDouble(bits);
        }
        return (int) bits == bits ? "" + Float.intBitsToFloat((int) bits) : "no int " + bits;
    }

    private static String tableText(TideDials x, int table) {
        if (thrown(x, table, 0, -1).equals("NOTHING") && thrown(x, table, 1, 0).equals("NOTHING")) {
            return "missing";
        }
        int kind = thrown(x, table, 0, 0).equals("CAST") ? 1 : 0;
        StringBuilder text = new StringBuilder(kind == 0 ? "floats" : "doubles");
        int size = 0;
        while (size < 20 && thrown(x, table, kind, size).isEmpty()) {
            text.append(' ').append(numberText(x, table, kind, size));
            size++;
        }
        for (int i : new int[] {-1, size, LEAST, MOST}) {
            text.append(thrown(x, table, kind, i).equals("BEYOND") ? "" : " and a place " + i);
            text.append(thrown(x, table, 1 - kind, i).equals("CAST") ? "" : " of both kinds");
        }
        return text.toString();
    }

    private static String dialText(TideDials x, int dial) {
        long hand = x.hand(dial, 0);
        long round = x.hand(dial, 1);
        // A ROUND is above 0.0, and that of a double fills more than an int as soon as it is no tiny one.
        if ((int) round == round) {
            boolean isInt = (int) hand == hand;
            return "float " + (isInt ? "" + Float.intBitsToFloat((int) hand) : "no int") + " of "
                + Float.intBitsToFloat((int) round);
        }
        return "double " + Double.longBitsToDouble(hand) + " of " + Double.longBitsToDouble(round);
    }

    /** Reading a WHEEL may be a FINDING: so the FINDINGS are read before. */
    private static String trainText(TideDials x) {
        if (x.strike(-1) == NOTHING) {
            return x.strike(0) == NOTHING && x.strike(MOST) == NOTHING ? "missing" : "odd";
        }
        StringBuilder text = new StringBuilder();
        int size = 0;
        while (size < 20 && x.strike(size) != BEYOND) {
            int struck = x.strike(size);
            text.append(struck == NOTHING ? " -" : " " + struck);
            size++;
        }
        if (size == 0) {
            return "empty";
        }
        return (x.wheel(0, 0, 1) == STORE ? "fine" : "any") + text;
    }

    private static Map<String, String> told(TideDials x) {
        Map<String, String> all = new LinkedHashMap<>();
        for (int what = 0; what <= 8; what++) {
            all.put("count " + what, "" + x.count(what));
        }
        for (int dial = 0; dial < 8; dial++) {
            all.put("dial " + dial, dial < x.count(0) ? dialText(x, dial) : "none " + x.hand(dial, 1));
        }
        for (int table = 0; table < 6; table++) {
            all.put("table " + table, tableText(x, table));
        }
        all.put("train", trainText(x));
        return all;
    }

    // ---- one of two objects gets the call

    private static void changesAfter(Past past, String what, Call call, long want, String... lines) {
        TideDials x = new TideDials();
        TideDials y = new TideDials();
        past.of(x);
        past.of(y);
        due(what + " (answer)", call.on(x), want);
        Map<String, String> before = told(y);
        List<String> changed = new ArrayList<>();
        for (Map.Entry<String, String> line : told(x).entrySet()) {
            if (!line.getValue().equals(before.get(line.getKey()))) {
                changed.add(line.getKey() + ": " + line.getValue());
            }
        }
        due(what + " (changes)", changed, Arrays.asList(lines));
    }

    private static void changes(String what, Call call, long want, String... lines) {
        changesAfter(EdgeTest::past, what, call, want, lines);
    }

    /** A FINDING counts as one more of its sort; each was met once in the past that most tests have. */
    private static void refusedAfter(Past past, int metBefore, String what, Call call, long want) {
        long answer = want < -FAR / 2 ? want + FAR : want;
        if (answer < -20 && answer > -27) {
            changesAfter(past, what, call, want, "count " + (-18 - answer) + ": " + (metBefore + 1));
        } else {
            changesAfter(past, what, call, want);
        }
    }

    private static void refused(String what, Call call, long want) {
        refusedAfter(EdgeTest::past, 1, what, call, want);
    }

    private static void tells(String what, Call call, long want) {
        changes(what, call, want);
    }

    private static void infinite(TideDials x, int table, int kind, int i) {
        x.put(table, kind, i, 1, 40);
        for (int k = 0; k < 5; k++) {
            x.square(table, kind, i);
        }
    }

    private static void past(TideDials x) {
        x.dial(0, 100, 0);
        x.dial(1, 15, -1);
        x.turn(0, -133, -2);
        x.turn(1, 9, -2);
        x.table(0, 0, 4);
        x.put(0, 0, 0, 13, 0);
        x.put(0, 0, 2, -3, 0);
        infinite(x, 0, 0, 3);
        x.table(1, 1, 4);
        x.put(1, 1, 0, -13, -1);
        x.put(1, 1, 1, 2, 0);
        infinite(x, 1, 1, 2);
        x.table(2, 0, 3);
        x.put(2, 0, 0, 5, 0);
        x.drop(2);
        x.table(3, 1, 0);
        x.table(4, 0, 2);
        x.put(4, 0, 0, 3, -1);
        x.put(4, 0, 1, -5, -1);
        x.left(0, 0, 2, 4, 0);
        x.train(true, 4);
        x.wheel(0, 1, 7);
        x.wheel(3, 1, 200);
        x.strike(1);
        x.strike(4);
        x.square(0, 1, 0);
        x.train(false, -1);
        x.wheel(0, 0, 5);
        x.left(1, 1, 0, 1, 3);
    }

    private static void pastIsAsMeant() {
        TideDials x = new TideDials();
        past(x);
        due("the past", told(x).toString(), "{count 0=2, count 1=4, count 2=2, count 3=1, count 4=1, count 5=1,"
            + " count 6=1, count 7=1, count 8=1, dial 0=float -33.25 of 100.0, dial 1=double 2.25 of 7.5,"
            + " dial 2=none 0, dial 3=none 0, dial 4=none 0, dial 5=none 0, dial 6=none 0, dial 7=none 0,"
            + " table 0=floats 13.0 0.0 -0.0 Infinity, table 1=doubles -6.5 2.0 Infinity 0.0, table 2=missing,"
            + " table 3=doubles, table 4=floats 1.5 -2.5, table 5=missing, train=fine 77 - - 2007}");
    }

    // ---- Promise 1

    private static void aNewObject() {
        String missing = "{count 0=0, count 1=0, count 2=0, count 3=0, count 4=0, count 5=0, count 6=0, count 7=0,"
            + " count 8=0, dial 0=none 0, dial 1=none 0, dial 2=none 0, dial 3=none 0, dial 4=none 0, dial 5=none 0,"
            + " dial 6=none 0, dial 7=none 0, table 0=missing, table 1=missing, table 2=missing, table 3=missing,"
            + " table 4=missing, table 5=missing, train=missing}";
        due("1: no DIALS, all TABLES and THE TRAIN are MISSING", told(new TideDials()).toString(), missing);
        TideDials x = new TideDials();
        TideDials y = new TideDials();
        past(y);
        due("1: one object knows nothing of another", told(x).toString(), missing);
    }

    private static void the512thCall() {
        TideDials x = new TideDials();
        x.dial(1, MOST, 40);
        for (int k = 2; k <= 511; k++) {
            due("call " + k, x.turn(0, 1, -40), 1);
        }
        due("call 512", x.hand(0, 0), Double.doubleToRawLongBits(510 * 0x1p-40));
        TideDials y = new TideDials();
        for (int k = 1; k <= 511; k++) {
            due("call " + k, y.strike(0), NOTHING);
        }
        due("call 512: FINDINGS in all", y.count(3), 511);
    }

    // ---- Promise 2

    private static void dialKinds() {
        for (int kind : NO_KIND) {
            refused("2: OUTSIDE: KIND " + kind, x -> x.dial(kind, 5, 0), OUTSIDE);
        }
        changes("2: KIND 0 is floats", x -> x.dial(0, 5, 0), 2, "count 0: 3", "dial 2: float 0.0 of 5.0");
        changes("2: KIND 1 is doubles", x -> x.dial(1, 5, 0), 2, "count 0: 3", "dial 2: double 0.0 of 5.0");
    }

    private static void dialPowers() {
        for (int e : NO_POWER) {
            refused("2: OUTSIDE: e " + e, x -> x.dial(0, 5, e), OUTSIDE);
            refused("2: OUTSIDE: e " + e + ", doubles", x -> x.dial(1, 5, e), OUTSIDE);
        }
        changes("2: e 40", x -> x.dial(0, 5, 40), 2, "count 0: 3", "dial 2: float 0.0 of " + 0x5p40f);
        changes("2: e -40", x -> x.dial(1, 5, -40), 2, "count 0: 3", "dial 2: double 0.0 of " + 0x5p-40);
    }

    private static void dialRounds() {
        for (int e : new int[] {-40, 0, 40}) {
            for (int n : new int[] {0, -1, -16777217, LEAST}) {
                refused("2: OUTSIDE: ROUND " + n + ", " + e, x -> x.dial(0, n, e), OUTSIDE);
                refused("2: OUTSIDE: ROUND " + n + ", " + e + ", doubles", x -> x.dial(1, n, e), OUTSIDE);
            }
        }
        changes("2: the least ROUND, floats", x -> x.dial(0, 1, -40), 2, "count 0: 3",
            "dial 2: float 0.0 of " + 0x1p-40f);
        changes("2: the least ROUND", x -> x.dial(1, 1, -40), 2, "count 0: 3", "dial 2: double 0.0 of " + 0x1p-40);
        changes("2: the most, as the nearest float", x -> x.dial(0, MOST, 40), 2, "count 0: 3",
            "dial 2: float 0.0 of " + 0x1p71f);
        changes("2: the most, just that", x -> x.dial(1, MOST, 40), 2, "count 0: 3",
            "dial 2: double 0.0 of " + (0x1p71 - 0x1p40));
    }

    private static void sevenDials(TideDials x) {
        for (int k = 0; k < 7; k++) {
            x.dial(k & 1, k + 1, 0);
        }
    }

    private static void eightDials(TideDials x) {
        sevenDials(x);
        x.dial(1, 8, 0);
    }

    private static void dialFull() {
        TideDials x = new TideDials();
        for (int k = 0; k < 8; k++) {
            due("2: DIALS 0 to 7, as they come", x.dial(k & 1, k + 1, 0), k);
            due("2: its HAND", x.hand(k, 0), 0L);
        }
        changesAfter(EdgeTest::sevenDials, "2: the eighth one", y -> y.dial(1, 8, 0), 7, "count 0: 8",
            "dial 7: double 0.0 of 8.0");
        for (int kind = 0; kind < 2; kind++) {
            int k = kind;
            refusedAfter(EdgeTest::eightDials, 0, "2: FULL", y -> y.dial(k, 9, 0), FULL);
            refusedAfter(EdgeTest::eightDials, 0, "2: OUTSIDE ahead of FULL: ROUND", y -> y.dial(k, 0, 0), OUTSIDE);
            refusedAfter(EdgeTest::eightDials, 0, "2: OUTSIDE ahead of FULL: e", y -> y.dial(k, 1, 41), OUTSIDE);
        }
        refusedAfter(EdgeTest::eightDials, 0, "2: OUTSIDE ahead of FULL: KIND", y -> y.dial(2, 1, 0), OUTSIDE);
        changesAfter(EdgeTest::eightDials, "3: the last DIAL turns", y -> y.turn(7, 9, 0), 1,
            "dial 7: double 1.0 of 8.0");
    }

    // ---- Promise 3

    private static void turnRefused() {
        for (int dial : NO_DIAL) {
            refused("3: UNKNOWN " + dial, x -> x.turn(dial, 1, 0), UNKNOWN);
            refused("3: UNKNOWN ahead of OUTSIDE", x -> x.turn(dial, 1, 41), UNKNOWN);
        }
        for (int e : NO_POWER) {
            refused("3: OUTSIDE: e " + e, x -> x.turn(0, 1, e), OUTSIDE);
            refused("3: OUTSIDE: e " + e + ", doubles", x -> x.turn(1, 0, e), OUTSIDE);
        }
        refusedAfter(x -> { }, 0, "3: UNKNOWN where no DIAL is", x -> x.turn(0, 1, 0), UNKNOWN);
    }

    private static void turnsTo(String what, int kind, int n, int e, int[] steps, String want) {
        TideDials x = new TideDials();
        x.dial(kind, n, e);
        for (int k = 0; k < steps.length; k += 2) {
            due(what + " (answer)", x.turn(0, steps[k], steps[k + 1]), 1);
        }
        String text = dialText(x, 0);
        due(what, text.substring(0, text.indexOf(" of ")), want);
        due(what + " (no ZERO)", x.count(8), 0);
    }

    private static void turnComesRound() {
        turnsTo("3: just below ROUND", 0, 100, 0, new int[] {13107199, -17}, "float 99.99999");
        turnsTo("3: ROUND", 0, 100, 0, new int[] {13107199, -17, 1, -17}, "float 0.0");
        turnsTo("3: just above ROUND", 0, 100, 0, new int[] {13107201, -17}, "float " + 0x1p-17f);
        turnsTo("3: just above -ROUND", 0, 100, 0, new int[] {-13107199, -17}, "float -99.99999");
        turnsTo("3: -ROUND", 0, 100, 0, new int[] {-100, 0}, "float -0.0");
        turnsTo("3: just below -ROUND", 0, 100, 0, new int[] {-13107201, -17}, "float " + -0x1p-17f);
        int part = 1 << 30;
        turnsTo("3: just below ROUND", 1, 1, -10, new int[] {part - 1, -40}, "double " + (0x1p-10 - 0x1p-40));
        turnsTo("3: ROUND", 1, 1, -10, new int[] {part - 1, -40, 1, -40}, "double 0.0");
        turnsTo("3: just above ROUND", 1, 1, -10, new int[] {part + 1, -40}, "double " + 0x1p-40);
        turnsTo("3: -ROUND", 1, 1, -10, new int[] {-part, -40}, "double -0.0");
        turnsTo("3: just below -ROUND", 1, 1, -10, new int[] {-part - 1, -40}, "double " + -0x1p-40);
        turnsTo("3: back to what the sum has no sign of", 1, 7, 0, new int[] {-3, 0, 3, 0}, "double 0.0");
        turnsTo("3: -0.0 and 0.0", 1, 7, 0, new int[] {-7, 0, 0, 0}, "double 0.0");
        turnsTo("3: -0.0 and less", 0, 7, 0, new int[] {-7, 0, -1, 0}, "float -1.0");
    }

    private static void turnInItsKind() {
        turnsTo("1: e 40", 0, 7, 0, new int[] {1, 40}, "float " + (0x1p40f % 7f));
        turnsTo("1: e -40", 0, 7, 0, new int[] {-1, -40}, "float " + -0x1p-40f);
        turnsTo("1: just that", 1, 1, 40, new int[] {16777217, 0}, "double 1.6777217E7");
        turnsTo("1: the nearest float, down to the even one", 0, 1, 40, new int[] {16777217, 0}, "float 1.6777216E7");
        turnsTo("1: the nearest float, up to the even one", 0, 1, 40, new int[] {16777219, 0}, "float 1.677722E7");
        turnsTo("1: the nearest float, not half way", 0, 1, 40, new int[] {33554435, 0}, "float 3.3554436E7");
        turnsTo("1: the nearest float below 0.0", 0, 1, 40, new int[] {-16777219, 0}, "float -1.677722E7");
        turnsTo("3: the sum is a float", 0, 1, 40, new int[] {16777216, 0, 1, 0}, "float 1.6777216E7");
        turnsTo("3: the sum is a double", 1, 1, 40, new int[] {16777216, 0, 1, 0}, "double 1.6777217E7");
        turnsTo("3: the sum of floats, to the even one", 0, 1, 40, new int[] {16777216, 0, 3, 0}, "float 1.677722E7");
        turnsTo("3: as far as can be told", 1, 1, -40, new int[] {MOST, 40}, "double 0.0");
        turnsTo("3: as far back as can be told", 1, 3, -40, new int[] {LEAST, 40}, "double " + (-0x1p71 % 0x3p-40));
        turnsTo("3: twice as far", 0, MOST, 40, new int[] {MOST, 39, MOST, 39}, "float 0.0");
        turnsTo("3: as far as can be told, floats", 0, 7, -1, new int[] {MOST, 40}, "float " + (0x1p71f % 3.5f));
    }

    // ---- Promise 4

    private static void handEdges() {
        for (int dial : NO_DIAL) {
            refused("4: 0: UNKNOWN " + dial, x -> x.hand(dial, 0), 0);
            refused("4: 0: UNKNOWN " + dial + ", ROUND", x -> x.hand(dial, 1), 0);
        }
        for (int what : new int[] {-1, 2, LEAST, MOST}) {
            refused("4: 0: OUTSIDE " + what, x -> x.hand(0, what), 0);
            refused("4: 0: OUTSIDE " + what + ", doubles", x -> x.hand(1, what), 0);
        }
        tells("4: a HAND, BITS of a float as an int", x -> x.hand(0, 0), Float.floatToRawIntBits(-33.25f));
        tells("4: ROUND, BITS of a float", x -> x.hand(0, 1), Float.floatToRawIntBits(100f));
        tells("4: a HAND, BITS of a double", x -> x.hand(1, 0), Double.doubleToRawLongBits(2.25));
        tells("4: ROUND, BITS of a double", x -> x.hand(1, 1), Double.doubleToRawLongBits(7.5));
        changes("4: BITS of -0.0f", x -> {
            x.dial(0, 1, 0);
            x.turn(2, -1, 0);
            return x.hand(2, 0);
        }, LEAST, "count 0: 3", "dial 2: float -0.0 of 1.0");
        changes("4: BITS of -0.0", x -> {
            x.dial(1, 1, 0);
            x.turn(2, -1, 0);
            return x.hand(2, 0);
        }, Long.MIN_VALUE, "count 0: 3", "dial 2: double -0.0 of 1.0");
    }

    // ---- Promise 5

    private static void tableRefused() {
        for (int table : NO_TABLE) {
            refused("5: UNKNOWN " + table, x -> x.table(table, 0, 1), UNKNOWN);
            refused("5: UNKNOWN ahead of OUTSIDE: KIND", x -> x.table(table, 2, 1), UNKNOWN);
            refused("5: UNKNOWN ahead of OUTSIDE: n", x -> x.table(table, 0, 13), UNKNOWN);
            refused("5: UNKNOWN ahead of SIZE", x -> x.table(table, 0, -1), UNKNOWN);
        }
        for (int kind : NO_KIND) {
            refused("5: OUTSIDE: KIND " + kind, x -> x.table(0, kind, 1), OUTSIDE);
            refused("5: OUTSIDE ahead of SIZE", x -> x.table(5, kind, -1), OUTSIDE);
        }
        for (int n : new int[] {13, 14, MOST}) {
            refused("5: OUTSIDE: n " + n, x -> x.table(1, 0, n), OUTSIDE);
            refused("5: OUTSIDE: n " + n + ", doubles", x -> x.table(5, 1, n), OUTSIDE);
        }
        for (int n : new int[] {-1, -2, -12, LEAST}) {
            refused("5: SIZE " + n, x -> x.table(0, 0, n), SIZE);
            refused("5: SIZE " + n + ", of a MISSING one", x -> x.table(5, 1, n), SIZE);
        }
    }

    private static void tableMade() {
        String zeros = " 0.0 0.0 0.0 0.0 0.0 0.0 0.0 0.0 0.0 0.0 0.0 0.0";
        changes("5: 12 at most", x -> x.table(5, 0, 12), 1, "count 1: 5", "table 5: floats" + zeros);
        changes("5: 12 at most, doubles", x -> x.table(5, 1, 12), 1, "count 1: 5", "table 5: doubles" + zeros);
        changes("5: 0 places", x -> x.table(5, 0, 0), 1, "count 1: 5", "table 5: floats");
        changes("5: one place", x -> x.table(5, 1, 1), 1, "count 1: 5", "table 5: doubles 0.0");
        changes("5: the first TABLE anew, 0.0 at first", x -> x.table(0, 0, 4), 1, "table 0: floats 0.0 0.0 0.0 0.0");
        changes("5: of the other KIND", x -> x.table(0, 1, 2), 1, "table 0: doubles 0.0 0.0");
        changes("5: more places", x -> x.table(4, 0, 3), 1, "table 4: floats 0.0 0.0 0.0");
        changes("5: none any more", x -> x.table(1, 1, 0), 1, "table 1: doubles");
        changes("5: after it was dropped", x -> x.table(2, 0, 3), 1, "count 1: 5", "table 2: floats 0.0 0.0 0.0");
        TideDials x = new TideDials();
        for (int t = 0; t < 6; t++) {
            due("5: TABLES 0 to 5", x.table(t, t & 1, t), 1);
            due("5: TABLES in all", x.count(1), t + 1);
        }
    }

    // ---- Promise 6

    private static void dropEdges() {
        for (int table : NO_TABLE) {
            refused("6: UNKNOWN " + table, x -> x.drop(table), UNKNOWN);
        }
        changes("6: the first TABLE", x -> x.drop(0), 1, "count 1: 3", "table 0: missing");
        changes("6: an empty one was there", x -> x.drop(3), 1, "count 1: 3", "table 3: missing");
        refused("6: the last TABLE was MISSING", x -> x.drop(5), 0);
        refused("6: it was dropped before", x -> x.drop(2), 0);
        changes("6: twice", x -> 10 * x.drop(1) + x.drop(1), 10, "count 1: 3", "table 1: missing");
        TideDials x = new TideDials();
        for (int t = 0; t < 6; t++) {
            due("6: not there", x.drop(t), 0);
            x.table(t, 0, 1);
            due("6: there", x.drop(t), 1);
        }
    }

    // ---- Promise 7

    private static void putRefused() {
        for (int table : NO_TABLE) {
            refused("7: UNKNOWN " + table, x -> x.put(table, 0, 0, 1, 0), UNKNOWN);
            refused("7: UNKNOWN ahead of OUTSIDE", x -> x.put(table, 2, -1, 1, 41), UNKNOWN);
        }
        for (int kind : NO_KIND) {
            refused("7: OUTSIDE: KIND " + kind, x -> x.put(0, kind, 0, 1, 0), OUTSIDE);
            refused("7: OUTSIDE ahead of NOTHING", x -> x.put(5, kind, 0, 1, 0), OUTSIDE);
            refused("7: OUTSIDE ahead of BEYOND", x -> x.put(0, kind, 4, 1, 0), OUTSIDE);
        }
        for (int e : NO_POWER) {
            refused("7: OUTSIDE: e " + e, x -> x.put(0, 0, 0, 1, e), OUTSIDE);
            refused("7: OUTSIDE ahead of CAST", x -> x.put(0, 1, 0, 1, e), OUTSIDE);
            refused("7: OUTSIDE ahead of NOTHING", x -> x.put(2, 0, 0, 1, e), OUTSIDE);
            refused("7: OUTSIDE ahead of BEYOND", x -> x.put(1, 1, 4, 1, e), OUTSIDE);
        }
        takenAndPlaced("7: put", (x, table, kind, i) -> x.put(table, kind, i, 1, 0), 0);
    }

    private interface Placed {
        long on(TideDials x, int table, int kind, int i);
    }

    /** CAST, NOTHING, BEYOND of one place of one TABLE, TAKEN for a KIND: the same for many calls. */
    private static void takenAndPlaced(String what, Placed call, long less) {
        int[] noPlace = {-1, 4, 12, LEAST, MOST};
        refused(what + ": CAST of floats", x -> call.on(x, 0, 1, 0), CAST - less);
        refused(what + ": CAST of doubles", x -> call.on(x, 1, 0, 0), CAST - less);
        refused(what + ": CAST of an empty TABLE", x -> call.on(x, 3, 0, 0), CAST - less);
        for (int i : noPlace) {
            refused(what + ": CAST ahead of BEYOND " + i, x -> call.on(x, 0, 1, i), CAST - less);
            refused(what + ": CAST ahead of BEYOND " + i + ", doubles", x -> call.on(x, 1, 0, i), CAST - less);
            refused(what + ": NOTHING ahead of BEYOND " + i, x -> call.on(x, 5, 0, i), NOTHING - less);
            refused(what + ": BEYOND " + i, x -> call.on(x, 0, 0, i), BEYOND - less);
            refused(what + ": BEYOND " + i + ", doubles", x -> call.on(x, 1, 1, i), BEYOND - less);
        }
        for (int kind = 0; kind < 2; kind++) {
            int k = kind;
            refused(what + ": a MISSING one TAKEN for KIND " + k, x -> call.on(x, 5, k, 0), NOTHING - less);
            refused(what + ": a dropped one TAKEN for KIND " + k, x -> call.on(x, 2, k, 0), NOTHING - less);
        }
        refused(what + ": BEYOND in an empty TABLE", x -> call.on(x, 3, 1, 0), BEYOND - less);
        refused(what + ": BEYOND just after the last of two", x -> call.on(x, 4, 0, 2), BEYOND - less);
    }

    private static void twelve(TideDials x) {
        x.table(0, 0, 12);
        x.table(5, 1, 12);
    }

    private static void putMade() {
        changes("7: the first place", x -> x.put(0, 0, 0, 7, 0), 1, "table 0: floats 7.0 0.0 -0.0 Infinity");
        changes("7: the last place", x -> x.put(1, 1, 3, 7, 0), 1, "table 1: doubles -6.5 2.0 Infinity 7.0");
        String eleven = " 0.0 0.0 0.0 0.0 0.0 0.0 0.0 0.0 0.0 0.0 0.0";
        changesAfter(EdgeTest::twelve, "7: place 11", x -> x.put(0, 0, 11, 7, 0), 1,
            "table 0: floats" + eleven + " 7.0");
        changesAfter(EdgeTest::twelve, "7: place 11, doubles", x -> x.put(5, 1, 11, 7, 0), 1,
            "table 5: doubles" + eleven + " 7.0");
        refusedAfter(EdgeTest::twelve, 0, "7: place 12", x -> x.put(0, 0, 12, 7, 0), BEYOND);
        changes("7: e 40", x -> x.put(1, 1, 0, 3, 40), 1, "table 1: doubles " + 0x3p40 + " 2.0 Infinity 0.0");
        changes("7: e -40", x -> x.put(0, 0, 0, 3, -40), 1, "table 0: floats " + 0x3p-40f + " 0.0 -0.0 Infinity");
        changes("7: the least double", x -> x.put(1, 1, 0, LEAST, 40), 1,
            "table 1: doubles " + -0x1p71 + " 2.0 Infinity 0.0");
        changes("7: the most, just that", x -> x.put(1, 1, 0, MOST, 40), 1,
            "table 1: doubles " + (0x1p71 - 0x1p40) + " 2.0 Infinity 0.0");
        changes("7: the most, the nearest float", x -> x.put(0, 0, 0, MOST, 40), 1,
            "table 0: floats " + 0x1p71f + " 0.0 -0.0 Infinity");
        changes("7: 24 bits, just that", x -> x.put(0, 0, 0, 16777215, -3), 1,
            "table 0: floats 2097151.9 0.0 -0.0 Infinity");
        changes("7: 25 bits, to the even one", x -> x.put(0, 0, 0, 16777217, -3), 1,
            "table 0: floats 2097152.0 0.0 -0.0 Infinity");
        changes("7: 25 bits, up to the even one", x -> x.put(0, 0, 0, -16777219, -3), 1,
            "table 0: floats -2097152.5 0.0 -0.0 Infinity");
        changes("7: 0.0 has no minus", x -> x.put(0, 0, 2, 0, -40), 1, "table 0: floats 13.0 0.0 0.0 Infinity");
    }

    // ---- Promise 8

    private static void numberRefused() {
        for (int table : NO_TABLE) {
            refused("8: 0: UNKNOWN " + table, x -> x.number(table, 0, 0), 0);
            refused("8: 0: UNKNOWN ahead of OUTSIDE", x -> x.number(table, 2, -1), 0);
        }
        for (int kind : NO_KIND) {
            refused("8: 0: OUTSIDE " + kind, x -> x.number(0, kind, 0), 0);
            refused("8: 0: OUTSIDE ahead of NullPointerException", x -> x.number(5, kind, 0), 0);
            refused("8: 0: OUTSIDE ahead of ArrayIndexOutOfBoundsException", x -> x.number(1, kind, 4), 0);
        }
        // As it counts none, a number that throws is told here as one that is below 0.
        Placed named = (x, table, kind, i) -> {
            String name = thrown(x, table, kind, i);
            return name.equals("CAST") ? CAST - FAR / 4 : name.equals("NOTHING") ? NOTHING - FAR / 4
                : name.equals("BEYOND") ? BEYOND - FAR / 4 : 0;
        };
        takenAndPlaced("8: number", named, FAR / 4);
    }

    private static void numberKinds() {
        TideDials x = new TideDials();
        past(x);
        String[] names = {"java.lang.ClassCastException", "java.lang.NullPointerException",
            "java.lang.ArrayIndexOutOfBoundsException"};
        int[][] calls = {{0, 1, 0}, {5, 1, 0}, {0, 0, 4}};
        for (int k = 0; k < 3; k++) {
            String got = "none";
            try {
                x.number(calls[k][0], calls[k][1], calls[k][2]);
            } catch (RuntimeException e) {
                got = e.getClass().getName();
            }
            due("8: the very exception", got, names[k]);
        }
        for (int what = 3; what <= 8; what++) {
            due("21: number() counts none", x.count(what), 1);
        }
    }

    private static void numberBits() {
        tells("8: BITS of the first place", x -> x.number(0, 0, 0), Float.floatToRawIntBits(13f));
        tells("8: BITS of the last place", x -> x.number(0, 0, 3), 0x7f800000L);
        tells("8: BITS of 0.0", x -> x.number(0, 0, 1), 0);
        tells("8: BITS of -0.0", x -> x.number(0, 0, 2), LEAST);
        tells("8: BITS of a double", x -> x.number(1, 1, 0), Double.doubleToRawLongBits(-6.5));
        tells("8: BITS of an endless double", x -> x.number(1, 1, 2), 0x7ff0000000000000L);
        tells("8: BITS of a float below 0.0, as an int", x -> x.number(4, 0, 1), Float.floatToRawIntBits(-2.5f));
        TideDials y = new TideDials();
        y.table(0, 1, 1);
        y.table(1, 0, 1);
        bitsDown(y, 362, 2, "8: just below the first normal float");
        bitsDown(y, 363, 2, "8: just above it");
        bitsDown(y, 267, 5, "8: just below the first normal double");
        bitsDown(y, 268, 5, "8: just above it");
    }

    /** n times 2 to the -40, squared again and again, as a double and crossed to a float. */
    private static void bitsDown(TideDials x, int n, int squares, String what) {
        x.put(0, 1, 0, n, -40);
        double d = n * 0x1p-40;
        for (int k = 0; k < squares; k++) {
            x.square(0, 1, 0);
            d *= d;
        }
        x.cross(0, 0, 1, 0, false);
        due(what + ", double", x.number(0, 1, 0), Double.doubleToRawLongBits(d));
        due(what + ", float", x.number(1, 0, 0), (long) Float.floatToRawIntBits((float) d));
    }

    // ---- Promise 9

    private static void leftRefused() {
        for (int table : NO_TABLE) {
            refused("9: UNKNOWN " + table, x -> x.left(table, 0, 0, 4, 0), UNKNOWN);
            refused("9: UNKNOWN, the other", x -> x.left(0, 0, 0, table, 0), UNKNOWN);
            refused("9: UNKNOWN ahead of OUTSIDE", x -> x.left(table, 2, 0, 4, 0), UNKNOWN);
            refused("9: UNKNOWN, the other, ahead of OUTSIDE", x -> x.left(0, 2, 0, table, 0), UNKNOWN);
            refused("9: UNKNOWN, the other, ahead of CAST", x -> x.left(0, 1, 0, table, 0), UNKNOWN);
            refused("9: UNKNOWN, the other, ahead of NOTHING", x -> x.left(5, 1, 0, table, 0), UNKNOWN);
        }
        for (int kind : NO_KIND) {
            refused("9: OUTSIDE " + kind, x -> x.left(0, kind, 0, 4, 0), OUTSIDE);
            refused("9: OUTSIDE ahead of NOTHING", x -> x.left(5, kind, 0, 2, 0), OUTSIDE);
        }
        takenAndPlaced("9: left, the first", (x, t, k, i) -> x.left(t, k, i, k == 0 ? 4 : 1, 0), 0);
        takenAndPlaced("9: left, the other", (x, t, k, i) -> x.left(k == 0 ? 4 : 1, k, 0, t, i), 0);
        takenAndPlaced("9: left, one and the same", (x, t, k, i) -> x.left(t, k, i, t, i), 0);
    }

    private static void leftOrder() {
        refused("9: CAST of both", x -> x.left(0, 1, 0, 4, 0), CAST);
        refused("9: CAST of the other ahead of NOTHING of the first", x -> x.left(5, 0, 0, 1, 0), CAST);
        refused("9: CAST of the other ahead of BEYOND of the first", x -> x.left(0, 0, 4, 1, 0), CAST);
        refused("9: CAST of the first ahead of NOTHING of the other", x -> x.left(0, 1, 0, 5, 0), CAST);
        refused("9: CAST of the first ahead of BEYOND of the other", x -> x.left(0, 1, 0, 1, 4), CAST);
        refused("9: NOTHING of both", x -> x.left(2, 0, 0, 5, 0), NOTHING);
        refused("9: NOTHING of the first ahead of BEYOND of the other", x -> x.left(5, 0, 0, 4, 2), NOTHING);
        refused("9: BEYOND of the first ahead of NOTHING of the other", x -> x.left(0, 0, 4, 5, 0), BEYOND);
        refused("9: NOTHING of the other", x -> x.left(0, 0, 3, 5, 9), NOTHING);
        refused("9: BEYOND of the first alone", x -> x.left(4, 0, 2, 0, 2), BEYOND);
        refused("9: BEYOND of the other alone", x -> x.left(0, 0, 3, 4, 2), BEYOND);
        refused("9: NOTHING ahead of ZERO", x -> x.left(5, 0, 0, 0, 1), NOTHING);
        refused("9: BEYOND ahead of ZERO", x -> x.left(0, 0, 4, 0, 1), BEYOND);
        refused("9: BEYOND of the other, of what is endless", x -> x.left(0, 0, 3, 0, 4), BEYOND);
    }

    private static void leftZero() {
        refused("9: ZERO: LEFT by 0.0", x -> x.left(0, 0, 0, 0, 1), ZERO);
        refused("9: ZERO: LEFT by -0.0", x -> x.left(0, 0, 0, 0, 2), ZERO);
        refused("9: ZERO: LEFT of 0.0 by itself", x -> x.left(0, 0, 1, 0, 1), ZERO);
        refused("9: ZERO: LEFT of -0.0 by 0.0", x -> x.left(0, 0, 2, 0, 1), ZERO);
        refused("9: ZERO: LEFT of what is endless", x -> x.left(0, 0, 3, 0, 0), ZERO);
        refused("9: ZERO: LEFT of what is endless by itself", x -> x.left(0, 0, 3, 0, 3), ZERO);
        refused("9: ZERO: LEFT of what is endless by 0.0", x -> x.left(0, 0, 3, 0, 1), ZERO);
        refused("9: ZERO: doubles, by 0.0", x -> x.left(1, 1, 0, 1, 3), ZERO);
        refused("9: ZERO: doubles, of what is endless", x -> x.left(1, 1, 2, 1, 1), ZERO);
        refused("9: ZERO: doubles, endless by endless", x -> x.left(1, 1, 2, 1, 2), ZERO);
        changes("9: of y endless it is x", x -> x.left(0, 0, 0, 0, 3), 1);
        changes("9: of y endless it is x, 0.0 too", x -> x.left(0, 0, 1, 0, 3), 1);
        changes("9: of y endless it is x, -0.0 too", x -> x.left(0, 0, 2, 0, 3), 1);
        changes("9: of y endless it is x, below 0.0 too", x -> x.left(1, 1, 0, 1, 2), 1);
    }

    private static void leftOf(String what, int n, int e, int m, int f) {
        TideDials x = new TideDials();
        for (int kind = 0; kind < 2; kind++) {
            x.table(kind, kind, 2);
            x.put(kind, kind, 0, n, e);
            x.put(kind, kind, 1, m, f);
            due(what + " (answer)", x.left(kind, kind, 0, kind, 1), 1);
        }
        double a = n * Math.pow(2, e);
        double b = m * Math.pow(2, f);
        due(what + " as floats", numberText(x, 0, 0, 0), "" + ((float) a % (float) b));
        due(what + " as doubles", numberText(x, 1, 1, 0), "" + (a % b));
        due(what + ": y is as it was", numberText(x, 1, 1, 1), "" + b);
    }

    private static void leftSigns() {
        for (int y : new int[] {5, -5}) {
            for (int x : new int[] {0, 4, 5, 6, 9, 10, 11, -4, -5, -6, -9, -10, -11}) {
                leftOf("9: with the sign of x: " + x + " by " + y, x, 0, y, 0);
            }
        }
        changes("9: of 0.0", x -> x.left(0, 0, 1, 4, 1), 1);
        changes("9: of -0.0", x -> x.left(0, 0, 2, 4, 1), 1);
        changes("9: by itself", x -> x.left(0, 0, 0, 0, 0), 1, "table 0: floats 0.0 0.0 -0.0 Infinity");
        changes("9: by itself, below 0.0", x -> x.left(1, 1, 0, 1, 0), 1, "table 1: doubles -0.0 2.0 Infinity 0.0");
        changes("9: by another place", x -> x.left(1, 1, 0, 1, 1), 1, "table 1: doubles -0.5 2.0 Infinity 0.0");
        changes("9: by another table", x -> x.left(0, 0, 0, 4, 1), 1, "table 0: floats 0.5 0.0 -0.0 Infinity");
    }

    private static void leftFar() {
        leftOf("9: just below y", 16777215, 0, 1 << 24, 0);
        leftOf("9: y", 16777216, 0, 1 << 24, 0);
        leftOf("9: just above y", 8388609, 1, 1 << 24, 0);
        leftOf("9: just below twice y", 16777215, 1, 1 << 24, 0);
        leftOf("9: twice y", 16777216, 1, 1 << 24, 0);
        leftOf("9: the most by the least", MOST, 40, 1, -40);
        leftOf("9: the most by little", MOST, 40, 3, -40);
        leftOf("9: the least by the most", 1, -40, MOST, 40);
        leftOf("9: the most below 0.0", LEAST, 40, 12345, -37);
        leftOf("9: by the most below 0.0", MOST, 40, LEAST, 38);
        leftOf("9: half of y", 1, -1, 1, 0);
        leftOfFar("9: near the end of the doubles", 7, 0);
        leftOfFar("9: near the end of the doubles, by the most", MOST, 40);
        leftOfFar("9: near the end of the doubles, by the least", -1, -40);
    }

    /** Of the double that is just not endless after five squares, and of the most float. */
    private static void leftOfFar(String what, int n, int e) {
        TideDials x = new TideDials();
        x.table(0, 0, 2);
        x.table(1, 1, 2);
        x.put(1, 1, 0, MOST - 32, 33);
        x.square(1, 1, 0);
        x.cross(1, 0, 0, 0, false);
        x.put(1, 1, 0, MOST, 1);
        double far = 0x1p32 - 2;
        for (int k = 0; k < 5; k++) {
            x.square(1, 1, 0);
            far *= far;
        }
        double y = n * Math.pow(2, e);
        x.put(0, 0, 1, n, e);
        x.put(1, 1, 1, n, e);
        due(what + " (answer)", x.left(0, 0, 0, 0, 1) + x.left(1, 1, 0, 1, 1), 2);
        due(what + ", floats", numberText(x, 0, 0, 0), "" + Float.MAX_VALUE % (float) y);
        due(what + ", doubles", numberText(x, 1, 1, 0), "" + far % y);
    }

    // ---- Promise 10

    private static void squareEdges() {
        for (int table : NO_TABLE) {
            refused("10: UNKNOWN " + table, x -> x.square(table, 0, 0), UNKNOWN);
            refused("10: UNKNOWN ahead of OUTSIDE", x -> x.square(table, 2, 0), UNKNOWN);
        }
        for (int kind : NO_KIND) {
            refused("10: OUTSIDE " + kind, x -> x.square(0, kind, 0), OUTSIDE);
            refused("10: OUTSIDE ahead of NOTHING", x -> x.square(5, kind, 0), OUTSIDE);
            refused("10: OUTSIDE ahead of BEYOND", x -> x.square(0, kind, 4), OUTSIDE);
        }
        takenAndPlaced("10: square", (x, table, kind, i) -> x.square(table, kind, i), 0);
        changes("10: the first place", x -> x.square(0, 0, 0), 1, "table 0: floats 169.0 0.0 -0.0 Infinity");
        changes("10: below 0.0", x -> x.square(1, 1, 0), 1, "table 1: doubles 42.25 2.0 Infinity 0.0");
        changes("10: 0.0", x -> x.square(0, 0, 1), 1);
        changes("10: -0.0", x -> x.square(0, 0, 2), 1, "table 0: floats 13.0 0.0 0.0 Infinity");
        changes("10: endless stays endless", x -> x.square(0, 0, 3), 1);
        changes("10: endless stays endless, doubles", x -> x.square(1, 1, 2), 1);
    }

    private static void squareTo(String what, int kind, int n, int e, int squares, String want) {
        changes(what, x -> {
            x.table(5, kind, 1);
            x.put(5, kind, 0, n, e);
            int all = 0;
            for (int k = 0; k < squares; k++) {
                all += x.square(5, kind, 0);
            }
            return all;
        }, squares, "count 1: 5", "table 5: " + want);
    }

    private static void squareFar() {
        float most = 0xffffffp40f;
        squareTo("10: just not endless", 0, 16777215, 40, 1, "floats " + most * most);
        squareTo("10: it may become endless", 0, 16777216, 40, 1, "floats Infinity");
        double root = 0x1p32 - 2;
        double far = root;
        for (int k = 0; k < 5; k++) {
            far *= far;
        }
        squareTo("10: just not endless, doubles", 1, MOST, 1, 5, "doubles " + far);
        squareTo("10: it may become endless, doubles", 1, 1, 32, 5, "doubles Infinity");
        squareTo("10: no float any more, but a double", 1, -16777216, 40, 1, "doubles " + 0x1p128);
        squareTo("10: the least floats", 0, 1, -37, 2, "floats " + 0x1p-148f);
        squareTo("10: down to 0.0", 0, 1, -38, 2, "floats 0.0");
        squareTo("10: not yet 0.0 as a double", 1, -1, -38, 2, "doubles " + 0x1p-152);
        squareTo("10: down to 0.0, doubles", 1, -1, -34, 5, "doubles 0.0");
        float f = 16777215f;
        squareTo("10: rounded as a float", 0, 16777215, 0, 1, "floats " + f * f);
        squareTo("10: rounded up as a float", 0, 12003, 0, 1, "floats 1.44072016E8");
        squareTo("10: not rounded as a double", 1, 16777215, 0, 1, "doubles 2.81474943156225E14");
    }

    // ---- Promise 11

    private static void crossRefused() {
        for (int table : NO_TABLE) {
            for (boolean wide : new boolean[] {true, false}) {
                refused("11: UNKNOWN " + table, x -> x.cross(table, 0, 1, 0, wide), UNKNOWN);
                refused("11: UNKNOWN, the other", x -> x.cross(0, 0, table, 0, wide), UNKNOWN);
                refused("11: UNKNOWN, the other, ahead of NOTHING", x -> x.cross(5, 0, table, 0, wide), UNKNOWN);
                refused("11: UNKNOWN, the other, ahead of BEYOND", x -> x.cross(0, 9, table, 0, wide), UNKNOWN);
            }
        }
        takenAndPlaced("11: read", (x, t, k, i) -> x.cross(t, i, k == 0 ? 1 : 0, 0, k == 0), 0);
        takenAndPlaced("11: written", (x, t, k, i) -> x.cross(k == 0 ? 1 : 0, 0, t, i, k == 1), 0);
    }

    private static void crossOrder() {
        refused("11: CAST read, CAST written", x -> x.cross(1, 0, 0, 0, true), CAST);
        refused("11: CAST read ahead of NOTHING written", x -> x.cross(1, 0, 5, 0, true), CAST);
        refused("11: NOTHING read ahead of CAST written", x -> x.cross(5, 0, 0, 0, true), NOTHING);
        refused("11: NOTHING read ahead of BEYOND written", x -> x.cross(5, 0, 1, 4, true), NOTHING);
        refused("11: BEYOND read ahead of CAST written", x -> x.cross(0, 4, 0, 0, true), BEYOND);
        refused("11: BEYOND read ahead of NOTHING written", x -> x.cross(0, 4, 5, 0, true), BEYOND);
        refused("11: NOTHING of both", x -> x.cross(5, 0, 2, 0, false), NOTHING);
        refused("11: BEYOND of both", x -> x.cross(0, -1, 1, 4, true), BEYOND);
        refused("11: one TABLE is not of both KINDS, wide", x -> x.cross(0, 0, 0, 1, true), CAST);
        refused("11: one TABLE is not of both KINDS", x -> x.cross(1, 0, 1, 1, false), CAST);
        refused("11: NOTHING read ahead of CAST written, not wide", x -> x.cross(5, 0, 1, 0, false), NOTHING);
        refused("11: BEYOND read ahead of CAST written, not wide", x -> x.cross(1, 4, 1, 0, false), BEYOND);
    }

    private static void crossMade() {
        changes("11: wide", x -> x.cross(0, 0, 1, 3, true), 1, "table 1: doubles -6.5 2.0 Infinity 13.0");
        changes("11: wide, -0.0", x -> x.cross(0, 2, 1, 0, true), 1, "table 1: doubles -0.0 2.0 Infinity 0.0");
        changes("11: wide, endless", x -> x.cross(0, 3, 1, 0, true), 1, "table 1: doubles Infinity 2.0 Infinity 0.0");
        changes("11: not wide", x -> x.cross(1, 0, 0, 3, false), 1, "table 0: floats 13.0 0.0 -0.0 -6.5");
        changes("11: not wide, endless", x -> x.cross(1, 2, 4, 1, false), 1, "table 4: floats 1.5 Infinity");
        changes("11: not wide, 0.0", x -> x.cross(1, 3, 4, 0, false), 1, "table 4: floats 0.0 -2.5");
    }

    private static void crossTo(String what, int n, int e, int squares, float want) {
        TideDials x = new TideDials();
        x.table(0, 0, 1);
        x.table(1, 1, 1);
        x.put(1, 1, 0, n, e);
        for (int k = 0; k < squares; k++) {
            x.square(1, 1, 0);
        }
        due(what + " (answer)", x.cross(1, 0, 0, 0, false), 1);
        due(what, numberText(x, 0, 0, 0), "" + want);
        due(what + " (answer back)", x.cross(0, 0, 1, 0, true), 1);
        due(what + " (back)", numberText(x, 1, 1, 0), "" + (double) want);
    }

    private static void crossNearest() {
        crossTo("11: half way, to the even float", 16777217, 0, 0, 16777216f);
        crossTo("11: half way, up to the even float", 16777219, 0, 0, 16777220f);
        crossTo("11: more than half way", 33554435, 0, 0, 33554436f);
        crossTo("11: below 0.0", -16777219, 3, 0, -134217760f);
        crossTo("11: the most float", MOST - 32, 33, 1, Float.MAX_VALUE);
        crossTo("11: a double no float is near to", MOST - 31, 33, 1, ENDLESS);
        crossTo("11: the least double no float is near to, far above", 1, 40, 2, ENDLESS);
        crossTo("11: small", 1, -37, 2, 0x1p-148f);
        crossTo("11: too small", 1, -38, 2, 0f);
        crossTo("11: not too small, up to the least float", 53, -40, 2, (float) (53.0 * 53 * 53 * 53 * 0x1p-160));
    }

    // ---- Promise 12

    private static void wholeRefused() {
        for (int table : NO_TABLE) {
            refused("12: UNKNOWN " + table, x -> x.whole(table, 0, 0, 0), UNKNOWN - FAR);
            refused("12: UNKNOWN ahead of OUTSIDE", x -> x.whole(table, 2, 0, 5), UNKNOWN - FAR);
        }
        for (int kind : NO_KIND) {
            refused("12: OUTSIDE: KIND " + kind, x -> x.whole(0, kind, 0, 0), OUTSIDE - FAR);
            refused("12: OUTSIDE ahead of NOTHING", x -> x.whole(5, kind, 0, 0), OUTSIDE - FAR);
        }
        for (int to : new int[] {-1, 5, LEAST, MOST}) {
            refused("12: OUTSIDE: to " + to, x -> x.whole(0, 0, 0, to), OUTSIDE - FAR);
            refused("12: OUTSIDE ahead of CAST", x -> x.whole(0, 1, 0, to), OUTSIDE - FAR);
            refused("12: OUTSIDE ahead of NOTHING", x -> x.whole(5, 1, 0, to), OUTSIDE - FAR);
            refused("12: OUTSIDE ahead of BEYOND", x -> x.whole(1, 1, 4, to), OUTSIDE - FAR);
        }
        for (int to = 0; to < 5; to++) {
            int t = to;
            takenAndPlaced("12: whole to " + to, (x, table, kind, i) -> x.whole(table, kind, i, t), FAR);
        }
    }

    /** Made an int, a long, a short, a char, a byte. */
    private static void wholes(String what, int kind, int n, int e, long... wants) {
        for (int to = 0; to < 5; to++) {
            int t = to;
            changesAfter(x -> {
                x.table(3, kind, 2);
                x.put(3, kind, 1, n, e);
            }, "12: " + what + ", to " + to, x -> x.whole(3, kind, 1, t), wants[to]);
        }
    }

    private static void wholeMade() {
        long most = MOST;
        long least = LEAST;
        for (int kind = 0; kind < 2; kind++) {
            wholes("towards 0", kind, 1, -1, 0, 0, 0, 0, 0);
            wholes("towards 0 from below", kind, -1, -1, 0, 0, 0, 0, 0);
            wholes("just below 2", kind, 16777215, -23, 1, 1, 1, 1, 1);
            wholes("just above -2", kind, -16777215, -23, -1, -1, -1, 65535, -1);
            wholes("the most byte", kind, 127, 0, 127, 127, 127, 127, 127);
            wholes("one more than a byte", kind, 128, 0, 128, 128, 128, 128, -128);
            wholes("the least byte", kind, -128, 0, -128, -128, -128, 65408, -128);
            wholes("one less than a byte", kind, -129, 0, -129, -129, -129, 65407, 127);
            wholes("bytes come round", kind, 256, 0, 256, 256, 256, 256, 0);
            wholes("the most short", kind, 32767, 0, 32767, 32767, 32767, 32767, -1);
            wholes("one more than a short", kind, 32768, 0, 32768, 32768, -32768, 32768, 0);
            wholes("the least short", kind, -32768, 0, -32768, -32768, -32768, 32768, 0);
            wholes("one less than a short", kind, -32769, 0, -32769, -32769, 32767, 32767, -1);
            wholes("the most char", kind, 65535, 0, 65535, 65535, -1, 65535, -1);
            wholes("one more than a char", kind, 65536, 0, 65536, 65536, 0, 0, 0);
            wholes("one more than an int", kind, 1, 31, most, 1L << 31, -1, 65535, -1);
            wholes("by an int, not by a long", kind, 1, 33, most, 1L << 33, -1, 65535, -1);
            wholes("the least int", kind, LEAST, 0, least, least, 0, 0, 0);
            wholes("less than an int", kind, LEAST, 1, least, 2 * least, 0, 0, 0);
            wholes("half of what a long has", kind, 1 << 22, 40, most, 1L << 62, -1, 65535, -1);
            wholes("one more than a long", kind, 1 << 30, 33, most, Long.MAX_VALUE, -1, 65535, -1);
            wholes("the least long", kind, LEAST, 32, least, Long.MIN_VALUE, 0, 0, 0);
            wholes("less than a long", kind, LEAST, 33, least, Long.MIN_VALUE, 0, 0, 0);
        }
        wholes("the most int", 1, MOST, 0, most, most, -1, 65535, -1);
        wholes("the most int has no float", 0, MOST, 0, most, 1L << 31, -1, 65535, -1);
        wholes("one less than an int", 1, -1073741825, 1, least, -2147483650L, 0, 0, 0);
        wholes("a long that is no float", 1, MOST, 32, most, (1L << 63) - (1L << 32), -1, 65535, -1);
    }

    private static void wholeOfEndless() {
        long[] wants = {MOST, Long.MAX_VALUE, -1, 65535, -1};
        for (int to = 0; to < 5; to++) {
            int t = to;
            tells("12: endless to " + to, x -> x.whole(0, 0, 3, t), wants[to]);
            tells("12: endless, doubles, to " + to, x -> x.whole(1, 1, 2, t), wants[to]);
            tells("12: -0.0 to " + to, x -> x.whole(0, 0, 2, t), 0);
            tells("12: 0.0 to " + to, x -> x.whole(1, 1, 3, t), 0);
        }
    }

    // ---- Promise 13

    private static void ofLongRefused() {
        for (int table : NO_TABLE) {
            refused("13: UNKNOWN " + table, x -> x.ofLong(table, 0, 0, 5), UNKNOWN);
            refused("13: UNKNOWN ahead of OUTSIDE", x -> x.ofLong(table, 2, 0, 5), UNKNOWN);
        }
        for (int kind : NO_KIND) {
            refused("13: OUTSIDE " + kind, x -> x.ofLong(0, kind, 0, 5), OUTSIDE);
            refused("13: OUTSIDE ahead of NOTHING", x -> x.ofLong(5, kind, 0, 5), OUTSIDE);
            refused("13: OUTSIDE ahead of BEYOND", x -> x.ofLong(0, kind, 4, 5), OUTSIDE);
        }
        takenAndPlaced("13: ofLong", (x, table, kind, i) -> x.ofLong(table, kind, i, 5), 0);
        takenAndPlaced("13: ofLong", (x, table, kind, i) -> x.ofLong(table, kind, i, Long.MAX_VALUE), 0);
    }

    private static void longMade(int kind, long v, long told, String number) {
        String tail = kind == 0 ? " 0.0 -0.0 Infinity" : " 2.0 Infinity 0.0";
        changes("13: " + v + " to KIND " + kind, x -> x.ofLong(kind, kind, 0, v), told,
            "table " + kind + ": " + (kind == 0 ? "floats " : "doubles ") + number + tail);
    }

    private static void ofLongMade() {
        longMade(0, 0, 1, "0.0");
        longMade(1, 0, 1, "0.0");
        longMade(0, -1, 1, "-1.0");
        longMade(0, 16777216, 1, "1.6777216E7");
        longMade(0, 16777217, 0, "1.6777216E7");
        longMade(0, 16777218, 1, "1.6777218E7");
        longMade(0, -16777219, 0, "-1.677722E7");
        longMade(1, 16777217, 1, "1.6777217E7");
        longMade(1, 1L << 53, 1, "9.007199254740992E15");
        longMade(1, (1L << 53) + 1, 0, "9.007199254740992E15");
        longMade(1, (1L << 53) + 2, 1, "9.007199254740994E15");
        longMade(1, -(1L << 53) - 3, 0, "-9.007199254740996E15");
        longMade(0, 1L << 62, 1, "" + 0x1p62f);
        for (int kind = 0; kind < 2; kind++) {
            longMade(kind, Long.MAX_VALUE, 1, kind == 0 ? "" + 0x1p63f : "" + 0x1p63);
            longMade(kind, Long.MAX_VALUE - 1, 0, kind == 0 ? "" + 0x1p63f : "" + 0x1p63);
            longMade(kind, Long.MIN_VALUE, 1, kind == 0 ? "" + -0x1p63f : "" + -0x1p63);
            longMade(kind, Long.MIN_VALUE + 1, 0, kind == 0 ? "" + -0x1p63f : "" + -0x1p63);
        }
        longMade(0, (1L << 63) - (1L << 39), 1, "" + (0x1p63f - 0x1p39f));
        longMade(1, (1L << 63) - (1L << 10), 1, "" + (0x1p63 - 0x1p10));
        // By way of a double this one would come out at the float below.
        longMade(0, (1L << 60) + (1L << 36) + 1, 0, "" + (0x1p60f + 0x1p37f));
        longMade(0, -(1L << 60) - (1L << 36) - 1, 0, "" + -(0x1p60f + 0x1p37f));
    }

    // ---- Promise 14

    private static void throughRefused() {
        for (int dial : NO_DIAL) {
            refused("14: UNKNOWN DIAL " + dial, x -> x.through(dial, 4), UNKNOWN);
            refused("14: UNKNOWN DIAL ahead of NOTHING", x -> x.through(dial, 5), UNKNOWN);
        }
        for (int table : NO_TABLE) {
            refused("14: UNKNOWN TABLE " + table, x -> x.through(0, table), UNKNOWN);
            refused("14: UNKNOWN TABLE, doubles", x -> x.through(1, table), UNKNOWN);
            refused("14: UNKNOWN both", x -> x.through(9, table), UNKNOWN);
        }
        for (int dial = 0; dial < 2; dial++) {
            int d = dial;
            refused("14: NOTHING", x -> x.through(d, 5), NOTHING);
            refused("14: NOTHING, dropped", x -> x.through(d, 2), NOTHING);
            refused("14: no places, no turns", x -> x.through(d, 3), 0);
        }
    }

    private static void throughMade() {
        changes("14: floats, a float DIAL", x -> x.through(0, 4), 2, "dial 0: float -34.25 of 100.0");
        changes("14: floats, a double DIAL", x -> x.through(1, 4), 2, "dial 1: double 1.25 of 7.5");
        // The endless place at the end of TABLE 0, and the one in the midst of TABLE 1.
        changes("14: till it is ZERO", x -> x.through(0, 0), 3, "count 8: 2", "dial 0: float -20.25 of 100.0");
        changes("14: till it is ZERO, a double DIAL", x -> x.through(1, 0), 3, "count 8: 2",
            "dial 1: double 0.25 of 7.5");
        changes("14: ZERO ends it, doubles", x -> x.through(1, 1), 2, "count 8: 2", "dial 1: double -2.25 of 7.5");
        changes("14: ZERO ends it, doubles made floats", x -> x.through(0, 1), 2, "count 8: 2",
            "dial 0: float -37.75 of 100.0");
        changesAfter(x -> {
            past(x);
            infinite(x, 4, 0, 0);
        }, "14: ZERO at once", x -> x.through(0, 4), 0, "count 8: 2");
        changesAfter(x -> {
            past(x);
            x.table(5, 1, 12);
            for (int k = 0; k < 12; k++) {
                x.put(5, 1, k, k + 1, 0);
            }
        }, "14: twelve places", x -> x.through(1, 5), 12, "dial 1: double 5.25 of 7.5");
    }

    /** A double that is near to the most float, or to none. */
    private static void throughNearest(String what, int n, int dial, long turns, String... lines) {
        changesAfter(x -> {
            past(x);
            x.table(5, 1, 2);
            x.put(5, 1, 0, n, 33);
            x.square(5, 1, 0);
            x.put(5, 1, 1, 1, 0);
        }, what, x -> x.through(dial, 5), turns, lines);
    }

    private static void throughNearestFloat() {
        double near = (MOST - 32) * 0x1p33 * ((MOST - 32) * 0x1p33);
        double none = (MOST - 31) * 0x1p33 * ((MOST - 31) * 0x1p33);
        throughNearest("14: the most float", MOST - 32, 0, 2,
            "dial 0: float " + ((Float.MAX_VALUE - 33.25f) % 100f + 1f) % 100f + " of 100.0");
        throughNearest("14: no float any more", MOST - 31, 0, 0, "count 8: 2");
        throughNearest("14: a double for a double DIAL", MOST - 32, 1, 2,
            "dial 1: double " + ((2.25 + near) % 7.5 + 1.0) % 7.5 + " of 7.5");
        throughNearest("14: a double for a double DIAL, no float", MOST - 31, 1, 2,
            "dial 1: double " + ((2.25 + none) % 7.5 + 1.0) % 7.5 + " of 7.5");
        changesAfter(x -> {
            x.dial(0, 1, 40);
            x.dial(1, 1, 40);
            x.table(0, 1, 1);
            x.put(0, 1, 0, 16777219, 0);
        }, "14: the nearest float, then TURNED", x -> 10 * x.through(0, 0) + x.through(1, 0), 11,
            "dial 0: float 1.677722E7 of " + 0x1p40f, "dial 1: double 1.6777219E7 of " + 0x1p40);
    }

    private static void throughSigns() {
        Past minus = x -> {
            x.dial(0, 5, 0);
            x.dial(1, 5, 0);
            x.turn(1, -5, 0);
            x.table(0, 0, 1);
            x.put(0, 0, 0, -5, 0);
            x.left(0, 0, 0, 0, 0);
        };
        changesAfter(minus, "14: 0.0 and -0.0", x -> x.through(0, 0), 1);
        changesAfter(minus, "14: -0.0 and -0.0", x -> x.through(1, 0), 1);
        changesAfter(minus, "3: -0.0 and 0.0", x -> x.turn(1, 0, 0), 1, "dial 1: double 0.0 of 5.0");
    }

    // ---- Promise 15

    private static void oftenRefused() {
        for (int table : NO_TABLE) {
            refused("15: UNKNOWN " + table, x -> x.often(table, 0, 0, 0), UNKNOWN - FAR);
            refused("15: UNKNOWN ahead of OUTSIDE", x -> x.often(table, 2, 0, 0), UNKNOWN - FAR);
        }
        for (int kind : NO_KIND) {
            refused("15: OUTSIDE " + kind, x -> x.often(0, kind, 0, 0), OUTSIDE - FAR);
            refused("15: OUTSIDE ahead of NOTHING", x -> x.often(5, kind, 0, 0), OUTSIDE - FAR);
            refused("15: OUTSIDE ahead of BEYOND", x -> x.often(0, kind, 4, 4), OUTSIDE - FAR);
        }
        takenAndPlaced("15: place i", (x, table, kind, i) -> x.often(table, kind, i, 0), FAR);
        takenAndPlaced("15: place j", (x, table, kind, i) -> x.often(table, kind, 0, i), FAR);
        takenAndPlaced("15: both", (x, table, kind, i) -> x.often(table, kind, i, i), FAR);
        refused("15: BEYOND of j, though i is 0.0", x -> x.often(0, 0, 1, 4), BEYOND - FAR);
        refused("15: BEYOND of i, though j is endless", x -> x.often(0, 0, 4, 3), BEYOND - FAR);
        refused("15: ZERO: by 0.0", x -> x.often(0, 0, 1, 0), ZERO - FAR);
        refused("15: ZERO: by -0.0", x -> x.often(0, 0, 2, 0), ZERO - FAR);
        refused("15: ZERO: 0.0 by itself", x -> x.often(1, 1, 3, 3), ZERO - FAR);
        refused("15: ZERO: of what is endless", x -> x.often(0, 0, 0, 3), ZERO - FAR);
        refused("15: ZERO: of what is endless, doubles", x -> x.often(1, 1, 1, 2), ZERO - FAR);
        refused("15: ZERO: endless by endless", x -> x.often(1, 1, 2, 2), ZERO - FAR);
        refused("15: ZERO: endless by 0.0", x -> x.often(0, 0, 1, 3), ZERO - FAR);
    }

    private static void oftenIs(String what, int kind, int ni, int ei, int nj, int ej, long want) {
        changesAfter(x -> {
            x.table(0, kind, 2);
            x.put(0, kind, 0, ni, ei);
            x.put(0, kind, 1, nj, ej);
        }, "15: " + what + " (KIND " + kind + ")", x -> x.often(0, kind, 0, 1), want);
    }

    private static void oftenMade() {
        tells("15: an endless one goes into none", x -> x.often(0, 0, 3, 0), 0);
        tells("15: an endless one goes into none, doubles", x -> x.often(1, 1, 2, 0), 0);
        tells("15: into 0.0", x -> x.often(0, 0, 0, 1), 0);
        tells("15: into -0.0", x -> x.often(0, 0, 0, 2), 0);
        tells("15: into itself", x -> x.often(1, 1, 0, 0), 1);
        tells("15: below 0.0", x -> x.often(1, 1, 1, 0), -3);
        for (int kind = 0; kind < 2; kind++) {
            oftenIs("just less than once", kind, 1 << 24, 0, 16777215, 0, 0);
            oftenIs("just more than once", kind, 1 << 24, 0, 8388609, 1, 1);
            oftenIs("just less than twice", kind, 1 << 24, 0, 16777215, 1, 1);
            oftenIs("just twice", kind, 1 << 24, 0, 1 << 25, 0, 2);
            oftenIs("both below 0.0", kind, -3, 0, -10, 0, 3);
            oftenIs("i below 0.0", kind, -3, 0, 10, 0, -3);
            oftenIs("j below 0.0, just not once", kind, 3, 0, -11, -2, 0);
            oftenIs("by one", kind, 1, 0, 1, 40, 1L << 40);
            oftenIs("as many as a long has", kind, 1, -22, 1, 40, 1L << 62);
            oftenIs("more than a long has", kind, 1, -23, 1, 40, Long.MAX_VALUE);
            oftenIs("less than a long has", kind, 1, -40, -1, 40, Long.MIN_VALUE);
            oftenIs("the least long", kind, 1, -23, -1, 40, Long.MIN_VALUE);
        }
        oftenIs("near the end of a long", 1, 1, -10, MOST, 22, (1L << 63) - (1L << 32));
        float a = 100000001f;
        float b = 0x3p-3f;
        oftenIs("as floats", 0, 3, -3, 100000001, 0, (long) ((a - a % b) / b));
        oftenIs("as doubles", 1, 3, -3, 100000001, 0, (long) ((100000001.0 - 100000001.0 % 0x3p-3) / 0x3p-3));
    }

    // ---- Promise 16

    private static void trainEdges() {
        for (boolean fine : new boolean[] {true, false}) {
            for (int n : new int[] {7, 8, MOST}) {
                refused("16: OUTSIDE " + n, x -> x.train(fine, n), OUTSIDE);
                refusedAfter(x -> { }, 0, "16: OUTSIDE " + n + ", MISSING still", x -> x.train(fine, n), OUTSIDE);
            }
            for (int n : new int[] {-1, -6, LEAST}) {
                refused("16: SIZE " + n, x -> x.train(fine, n), SIZE);
                refusedAfter(x -> { }, 0, "16: SIZE " + n + ", MISSING still", x -> x.train(fine, n), SIZE);
            }
            String name = fine ? "fine" : "any";
            changes("16: 6 at most", x -> x.train(fine, 6), 1, "count 2: 0", "train: " + name + " - - - - - -");
            changes("16: MISSING anew", x -> x.train(fine, 4), 1, "count 2: 0", "train: " + name + " - - - -");
            changes("16: one place", x -> x.train(fine, 1), 1, "count 2: 0", "train: " + name + " -");
            changes("16: no places", x -> x.train(fine, 0), 1, "count 2: 0", "train: empty");
            changesAfter(x -> { }, "16: the first one", x -> x.train(fine, 6), 1, "train: " + name + " - - - - - -");
            changesAfter(x -> { }, "16: the first one, of no places", x -> x.train(fine, 0), 1, "train: empty");
        }
    }

    // ---- Promise 17

    private static void dropTrainEdges() {
        changes("17: it was there", x -> x.dropTrain(), 1, "count 2: 0", "train: missing");
        changes("17: it was there once", x -> 10 * x.dropTrain() + x.dropTrain(), 10, "count 2: 0", "train: missing");
        changesAfter(x -> { }, "17: it was MISSING", x -> x.dropTrain(), 0);
        changesAfter(x -> x.train(true, 0), "17: one of no places is there", x -> x.dropTrain(), 1, "train: missing");
        changes("17: a new one has no WHEELS", x -> 10 * x.dropTrain() + x.train(true, 4), 11, "count 2: 0",
            "train: fine - - - -");
    }

    // ---- Promise 18

    private static void anyTrain(TideDials x) {
        x.train(false, 6);
        x.wheel(0, 1, 3);
        x.wheel(1, 0, 4);
    }

    private static void wheelRefused() {
        for (int sort : new int[] {-1, 2, LEAST, MOST}) {
            refused("18: OUTSIDE: the sort " + sort, x -> x.wheel(0, sort, 5), OUTSIDE);
            refused("18: OUTSIDE ahead of BEYOND", x -> x.wheel(4, sort, 5), OUTSIDE);
            refusedAfter(EdgeTest::anyTrain, 0, "18: OUTSIDE: the sort", x -> x.wheel(0, sort, 5), OUTSIDE);
            refusedAfter(x -> { }, 0, "18: OUTSIDE ahead of NOTHING", x -> x.wheel(0, sort, 5), OUTSIDE);
        }
        for (int teeth : new int[] {0, -1, 201, LEAST, MOST}) {
            refused("18: OUTSIDE: TEETH " + teeth, x -> x.wheel(0, 1, teeth), OUTSIDE);
            refused("18: OUTSIDE ahead of BEYOND", x -> x.wheel(-1, 1, teeth), OUTSIDE);
            refused("18: OUTSIDE ahead of STORE", x -> x.wheel(0, 0, teeth), OUTSIDE);
            refusedAfter(EdgeTest::anyTrain, 0, "18: OUTSIDE: TEETH", x -> x.wheel(0, 0, teeth), OUTSIDE);
            refusedAfter(x -> { }, 0, "18: OUTSIDE ahead of NOTHING", x -> x.wheel(0, 1, teeth), OUTSIDE);
        }
        for (int sort = 0; sort < 2; sort++) {
            int s = sort;
            for (int i : new int[] {-1, 0, 6, LEAST, MOST}) {
                refusedAfter(x -> { }, 0, "18: NOTHING, sort " + s, x -> x.wheel(i, s, 5), NOTHING);
                refusedAfter(x -> {
                    x.train(true, 3);
                    x.dropTrain();
                }, 0, "18: NOTHING, sort " + s, x -> x.wheel(i, s, 5), NOTHING);
            }
            for (int i : new int[] {-1, 4, 5, 6, LEAST, MOST}) {
                refused("18: BEYOND (ahead of STORE), sort " + s, x -> x.wheel(i, s, 5), BEYOND);
            }
            refusedAfter(EdgeTest::anyTrain, 0, "18: BEYOND, sort " + s, x -> x.wheel(6, s, 5), BEYOND);
            refusedAfter(x -> x.train(s == 0, 0), 0, "18: BEYOND at once", x -> x.wheel(0, s, 5), BEYOND);
        }
        refused("18: STORE where a WHEEL is", x -> x.wheel(0, 0, 7), STORE);
        refused("18: STORE where none is", x -> x.wheel(1, 0, 1), STORE);
        refused("18: STORE at the last place", x -> x.wheel(3, 0, 200), STORE);
    }

    private static void wheelMade() {
        changes("18: FINE, 1 TOOTH", x -> x.wheel(1, 1, 1), 1, "count 2: 3", "train: fine 77 17 - 2007");
        changes("18: FINE, 200 TEETH", x -> x.wheel(2, 1, 200), 1, "count 2: 3", "train: fine 77 - 2007 2007");
        changes("18: in the stead of another", x -> x.wheel(3, 1, 2), 1, "train: fine 77 - - 27");
        changesAfter(EdgeTest::anyTrain, "18: PLAIN, 1 TOOTH", x -> x.wheel(5, 0, 1), 1, "count 2: 3",
            "train: any 37 40 - - - 10");
        changesAfter(EdgeTest::anyTrain, "18: PLAIN, 200 TEETH", x -> x.wheel(2, 0, 200), 1, "count 2: 3",
            "train: any 37 40 2000 - - -");
        changesAfter(EdgeTest::anyTrain, "18: PLAIN for FINE", x -> x.wheel(0, 0, 3), 1, "train: any 30 40 - - - -");
        changesAfter(EdgeTest::anyTrain, "18: FINE for PLAIN", x -> x.wheel(1, 1, 4), 1, "train: any 37 47 - - - -");
        changesAfter(EdgeTest::anyTrain, "18: THE TRAIN that was for any, now for FINE alone", x -> {
            x.train(true, 1);
            return x.wheel(0, 0, 3);
        }, STORE, "count 2: 0", "count 7: 1", "train: fine -");
    }

    // ---- Promise 19

    private static void strikeEdges() {
        tells("19: a FINE one", x -> x.strike(0), 77);
        tells("19: the last place", x -> x.strike(3), 2007);
        refused("19: NOTHING: the WHEEL", x -> x.strike(1), NOTHING);
        for (int i : new int[] {-1, 4, 5, 6, LEAST, MOST}) {
            refused("19: BEYOND " + i, x -> x.strike(i), BEYOND);
            refusedAfter(x -> { }, 0, "19: NOTHING: THE TRAIN", x -> x.strike(i), NOTHING);
        }
        refusedAfter(x -> x.train(false, 0), 0, "19: BEYOND in a TRAIN of no places", x -> x.strike(0), BEYOND);
        refusedAfter(EdgeTest::anyTrain, 0, "19: NOTHING: the last WHEEL", x -> x.strike(5), NOTHING);
        refusedAfter(EdgeTest::anyTrain, 0, "19: BEYOND: after it", x -> x.strike(6), BEYOND);
        changesAfter(EdgeTest::anyTrain, "19: 10 times its TEETH", x -> x.strike(1), 40);
        changesAfter(EdgeTest::anyTrain, "19: a FINE one 7 more", x -> x.strike(0), 37);
        refusedAfter(x -> {
            anyTrain(x);
            x.dropTrain();
        }, 0, "19: NOTHING: no TRAIN any more", x -> x.strike(0), NOTHING);
    }

    // ---- Promise 20

    private static void gearRefused() {
        for (int dial : NO_DIAL) {
            refused("20: UNKNOWN " + dial, x -> x.gear(dial, 0), UNKNOWN);
            refused("20: UNKNOWN ahead of NOTHING", x -> x.gear(dial, 1), UNKNOWN);
            refused("20: UNKNOWN ahead of BEYOND", x -> x.gear(dial, 4), UNKNOWN);
        }
        for (int dial = 0; dial < 2; dial++) {
            int d = dial;
            refused("20: NOTHING: the WHEEL", x -> x.gear(d, 1), NOTHING);
            for (int i : new int[] {-1, 4, 6, LEAST, MOST}) {
                refused("20: BEYOND " + i, x -> x.gear(d, i), BEYOND);
                refusedAfter(x -> {
                    past(x);
                    x.dropTrain();
                }, 1, "20: NOTHING: THE TRAIN", x -> x.gear(d, i), NOTHING);
            }
        }
        refusedAfter(x -> {
            x.dial(0, 5, 0);
            x.train(true, 0);
        }, 0, "20: BEYOND in a TRAIN of no places", x -> x.gear(0, 0), BEYOND);
    }

    private static void gearMade() {
        changes("20: HAND times TEETH", x -> x.gear(0, 0), 1, "dial 0: float -32.75 of 100.0");
        changes("20: HAND times TEETH, doubles", x -> x.gear(1, 0), 1, "dial 1: double 0.75 of 7.5");
        changes("20: the last WHEEL", x -> x.gear(1, 3), 1, "dial 1: double 0.0 of 7.5");
        geared("20: just ROUND", 0, 8, 4, 2, "float 0.0 of 8.0");
        geared("20: just -ROUND", 0, 8, -4, 2, "float -0.0 of 8.0");
        geared("20: -0.0 stays", 1, 8, -8, 200, "double -0.0 of 8.0");
        geared("20: just below ROUND", 1, 8, 7, 1, "double 7.0 of 8.0");
        geared("20: just above ROUND", 1, 8, 3, 3, "double 1.0 of 8.0");
        geared("20: the product is a float", 0, 1 << 29, 16777215, 3, "float " + (16777215f * 3f) + " of 5.3687091E8");
        geared("20: the product is a float, rounded up", 0, 1 << 29, 16777213, 3, "float 5.033164E7 of 5.3687091E8");
        geared("20: the product is a double", 1, 1 << 29, 16777215, 3, "double 5.0331645E7 of 5.36870912E8");
        changesAfter(x -> {
            x.dial(0, MOST, 40);
            x.turn(0, 16777215, 40);
            x.train(false, 1);
            x.wheel(0, 0, 200);
        }, "20: far", x -> x.gear(0, 0), 1, "dial 0: float " + 0xffffffp40f * 200f % 0x1p71f + " of " + 0x1p71f);
    }

    private static void geared(String what, int kind, int round, int hand, int teeth, String want) {
        for (int sort = 0; sort < 2; sort++) {
            TideDials x = new TideDials();
            x.dial(kind, round, 0);
            x.turn(0, hand, 0);
            x.train(sort == 1, 6);
            x.wheel(5, sort, teeth);
            due(what + " (answer)", x.gear(0, 5), 1);
            due(what, dialText(x, 0), want);
        }
    }

    // ---- Promise 21

    private static void countEdges() {
        for (int what : new int[] {-1, 9, LEAST, MOST}) {
            refused("21: OUTSIDE " + what, x -> x.count(what), OUTSIDE);
        }
        int[] wants = {2, 4, 2, 1, 1, 1, 1, 1, 1};
        for (int what = 0; what < 9; what++) {
            int w = what;
            tells("21: count(" + what + ")", x -> x.count(w), wants[what]);
        }
        changes("21: WHEELS in THE TRAIN alone", x -> 10 * x.dropTrain() + x.count(2), 10, "count 2: 0",
            "train: missing");
        TideDials x = new TideDials();
        past(x);
        for (int k = 0; k < 20; k++) {
            x.whole(0, 1, 0, 0);
            x.often(0, 0, 1, 0);
            x.often(5, 0, 1, 0);
        }
        due("21: whole() counts", x.count(5), 21);
        due("21: often() counts", x.count(8), 21);
        due("21: often() counts NOTHING", x.count(3), 21);
        due("21: refusals count none", x.count(4) + x.count(6) + x.count(7), 3);
        x.drop(0);
        x.dropTrain();
        due("21: they stay when what they came of is MISSING", x.count(5), 21);
    }

    // ---- Promise 22

    private static void clearEdges() {
        String fresh = told(new TideDials()).toString();
        Past[] pasts = {x -> { }, EdgeTest::past, EdgeTest::sevenDials, EdgeTest::eightDials, EdgeTest::twelve,
            EdgeTest::anyTrain};
        int[] dials = {0, 2, 7, 8, 0, 0};
        for (int k = 0; k < pasts.length; k++) {
            TideDials x = new TideDials();
            pasts[k].of(x);
            due("22: how many DIALS there were", x.clear(), dials[k]);
            due("22: all is as at the beginning", told(x).toString(), fresh);
            TideDials y = new TideDials();
            pasts[k].of(y);
            y.clear();
            due("22: and again", y.clear(), 0);
            past(y);
            TideDials z = new TideDials();
            past(z);
            due("22: what is made anew is as in a new object", told(y).toString(), told(z).toString());
        }
        TideDials x = new TideDials();
        eightDials(x);
        x.clear();
        for (int k = 0; k < 8; k++) {
            due("22: DIALS as they come", x.dial(1, 3, 0), k);
            due("22: its HAND", x.hand(k, 0), 0L);
        }
        due("22: FULL again", x.dial(1, 3, 0), FULL);
        due("22: eight again", x.clear(), 8);
    }

    public static void main(String[] args) {
        pastIsAsMeant();
        aNewObject();
        the512thCall();
        dialKinds();
        dialPowers();
        dialRounds();
        dialFull();
        turnRefused();
        turnComesRound();
        turnInItsKind();
        handEdges();
        tableRefused();
        tableMade();
        dropEdges();
        putRefused();
        putMade();
        numberRefused();
        numberKinds();
        numberBits();
        leftRefused();
        leftOrder();
        leftZero();
        leftSigns();
        leftFar();
        squareEdges();
        squareFar();
        crossRefused();
        crossOrder();
        crossMade();
        crossNearest();
        wholeRefused();
        wholeMade();
        wholeOfEndless();
        ofLongRefused();
        ofLongMade();
        throughRefused();
        throughMade();
        throughNearestFloat();
        throughSigns();
        oftenRefused();
        oftenMade();
        trainEdges();
        dropTrainEdges();
        wheelRefused();
        wheelMade();
        strikeEdges();
        gearRefused();
        gearMade();
        countEdges();
        clearEdges();
        System.out.println(wrong == 0 ? "all " + checked + " edges hold" : wrong + " edges are not as due");
        if (wrong != 0) {
            System.exit(1);
        }
    }
}
