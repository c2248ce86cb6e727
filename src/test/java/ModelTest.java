import java.util.Random;

/**
 * Long runs of calls, each answer against a model that keeps real float[] and double[] rows and lets Java itself
 * reckon: %, floatToRawIntBits, doubleToRawLongBits, casts, and the machine's own exceptions for the FINDINGS.
 * Now and then the whole state is compared too, so that nothing changes where nothing may.
 */
public final class ModelTest {
    private static final int CALLS = 512;
    private static final int RUNS = 6000;
    private static final long FAR = 4000000000000000000L;

    private static class Wheel {
        final int teeth;

        Wheel(int teeth) {
            this.teeth = teeth;
        }

        int strikes() {
            return 10 * teeth;
        }
    }

    private static final class FineWheel extends Wheel {
        FineWheel(int teeth) {
            super(teeth);
        }

        @Override
        int strikes() {
            return 10 * teeth + 7;
        }
    }

    private static final class Zero extends RuntimeException {
        private static final long serialVersionUID = 1L;
    }

    private static final class Model {
        int dials = 0;
        final int[] kinds = new int[8];
        final float[] handF = new float[8];
        final float[] roundF = new float[8];
        final double[] handD = new double[8];
        final double[] roundD = new double[8];
        final Object[] tables = new Object[6];
        Wheel[] train = null;
        final int[] findings = new int[7];

        int tell(RuntimeException e) {
            int finding = e instanceof NullPointerException ? 1
                : e instanceof ArrayIndexOutOfBoundsException ? 2
                : e instanceof ClassCastException ? 3
                : e instanceof NegativeArraySizeException ? 4
                : e instanceof ArrayStoreException ? 5
                : e instanceof Zero ? 6 : 0;
            if (finding == 0) {
                throw e;
            }
            findings[finding]++;
            return -20 - finding;
        }

        static double given(int n, int e) {
            return n * Math.pow(2.0, e);
        }

        static boolean power(int e) {
            return Math.abs((long) e) <= 40;
        }

        static boolean isTable(int t) {
            return t >= 0 && t <= 5;
        }

        boolean isDial(int d) {
            return d >= 0 && d < dials;
        }

        static boolean isKind(int kind) {
            return kind == 0 || kind == 1;
        }

        static float leftF(float x, float y) {
            float r = x % y;
            if (Float.isNaN(r)) {
                throw new Zero();
            }
            return r;
        }

        static double leftD(double x, double y) {
            double r = x % y;
            if (Double.isNaN(r)) {
                throw new Zero();
            }
            return r;
        }

        int dial(int kind, int n, int e) {
            if (!isKind(kind) || !power(e) || n <= 0) {
                return -2;
            }
            if (dials == 8) {
                return -4;
            }
            kinds[dials] = kind;
            handF[dials] = 0;
            handD[dials] = 0;
            roundF[dials] = (float) given(n, e);
            roundD[dials] = given(n, e);
            return dials++;
        }

        void turnBy(int dial, float f, double d) {
            if (kinds[dial] == 0) {
                handF[dial] = leftF(handF[dial] + f, roundF[dial]);
            } else {
                handD[dial] = leftD(handD[dial] + d, roundD[dial]);
            }
        }

        int turn(int dial, int n, int e) {
            if (!isDial(dial)) {
                return -1;
            }
            if (!power(e)) {
                return -2;
            }
            try {
                turnBy(dial, (float) given(n, e), given(n, e));
                return 1;
            } catch (RuntimeException f) {
                return tell(f);
            }
        }

        long hand(int dial, int what) {
            if (!isDial(dial) || (what != 0 && what != 1)) {
                return 0;
            }
            return kinds[dial] == 0
                ? Float.floatToRawIntBits(what == 0 ? handF[dial] : roundF[dial])
                : Double.doubleToRawLongBits(what == 0 ? handD[dial] : roundD[dial]);
        }

        int table(int table, int kind, int n) {
            if (!isTable(table)) {
                return -1;
            }
            if (!isKind(kind) || n > 12) {
                return -2;
            }
            try {
                tables[table] = kind == 0 ? (Object) new float[n] : new double[n];
                return 1;
            } catch (NegativeArraySizeException e) {
                return tell(e);
            }
        }

        int drop(int table) {
            if (!isTable(table)) {
                return -1;
            }
            int was = tables[table] == null ? 0 : 1;
            tables[table] = null;
            return was;
        }

        int put(int table, int kind, int i, int n, int e) {
            if (!isTable(table)) {
                return -1;
            }
            if (!isKind(kind) || !power(e)) {
                return -2;
            }
            try {
                if (kind == 0) {
                    ((float[]) tables[table])[i] = (float) given(n, e);
                } else {
                    ((double[]) tables[table])[i] = given(n, e);
                }
                return 1;
            } catch (RuntimeException f) {
                return tell(f);
            }
        }

        long number(int table, int kind, int i) {
            if (!isTable(table) || !isKind(kind)) {
                return 0;
            }
            return kind == 0
                ? Float.floatToRawIntBits(((float[]) tables[table])[i])
                : Double.doubleToRawLongBits(((double[]) tables[table])[i]);
        }

        int left(int table, int kind, int i, int other, int j) {
            if (!isTable(table) || !isTable(other)) {
                return -1;
            }
            if (!isKind(kind)) {
                return -2;
            }
            try {
                if (kind == 0) {
                    float[] a = (float[]) tables[table];
                    float[] b = (float[]) tables[other];
                    float x = a[i];
                    a[i] = leftF(x, b[j]);
                } else {
                    double[] a = (double[]) tables[table];
                    double[] b = (double[]) tables[other];
                    double x = a[i];
                    a[i] = leftD(x, b[j]);
                }
                return 1;
            } catch (RuntimeException f) {
                return tell(f);
            }
        }

        int square(int table, int kind, int i) {
            if (!isTable(table)) {
                return -1;
            }
            if (!isKind(kind)) {
                return -2;
            }
            try {
                if (kind == 0) {
                    float[] a = (float[]) tables[table];
                    a[i] *= a[i];
                } else {
                    double[] a = (double[]) tables[table];
                    a[i] *= a[i];
                }
                return 1;
            } catch (RuntimeException f) {
                return tell(f);
            }
        }

        int cross(int from, int i, int to, int j, boolean wide) {
            if (!isTable(from) || !isTable(to)) {
                return -1;
            }
            try {
                if (wide) {
                    double v = ((float[]) tables[from])[i];
                    ((double[]) tables[to])[j] = v;
                } else {
                    float v = (float) ((double[]) tables[from])[i];
                    ((float[]) tables[to])[j] = v;
                }
                return 1;
            } catch (RuntimeException f) {
                return tell(f);
            }
        }

        long whole(int table, int kind, int i, int to) {
            if (!isTable(table)) {
                return -1 - FAR;
            }
            if (!isKind(kind) || to < 0 || to > 4) {
                return -2 - FAR;
            }
            try {
                if (kind == 0) {
                    float v = ((float[]) tables[table])[i];
                    return to == 0 ? (int) v : to == 1 ? (long) v : to == 2 ? (short) v : to == 3 ? (char) v : (byte) v;
                }
                double v = ((double[]) tables[table])[i];
                return to == 0 ? (int) v : to == 1 ? (long) v : to == 2 ? (short) v : to == 3 ? (char) v : (byte) v;
            } catch (RuntimeException f) {
                return tell(f) - FAR;
            }
        }

        int ofLong(int table, int kind, int i, long v) {
            if (!isTable(table)) {
                return -1;
            }
            if (!isKind(kind)) {
                return -2;
            }
            try {
                if (kind == 0) {
                    ((float[]) tables[table])[i] = v;
                } else {
                    ((double[]) tables[table])[i] = v;
                }
                return whole(table, kind, i, 1) == v ? 1 : 0;
            } catch (RuntimeException f) {
                return tell(f);
            }
        }

        int through(int dial, int table) {
            if (!isDial(dial) || !isTable(table)) {
                return -1;
            }
            int turns = 0;
            try {
                if (tables[table] == null) {
                    throw new NullPointerException();
                }
                if (tables[table] instanceof float[]) {
                    for (float v : (float[]) tables[table]) {
                        turnBy(dial, v, v);
                        turns++;
                    }
                } else {
                    for (double v : (double[]) tables[table]) {
                        turnBy(dial, (float) v, v);
                        turns++;
                    }
                }
                return turns;
            } catch (Zero f) {
                tell(f);
                return turns;
            } catch (NullPointerException f) {
                return tell(f);
            }
        }

        long often(int table, int kind, int i, int j) {
            if (!isTable(table)) {
                return -1 - FAR;
            }
            if (!isKind(kind)) {
                return -2 - FAR;
            }
            try {
                if (kind == 0) {
                    float[] a = (float[]) tables[table];
                    float x = a[j];
                    float y = a[i];
                    return (long) ((x - leftF(x, y)) / y);
                }
                double[] a = (double[]) tables[table];
                double x = a[j];
                double y = a[i];
                return (long) ((x - leftD(x, y)) / y);
            } catch (RuntimeException f) {
                return tell(f) - FAR;
            }
        }

        int train(boolean fine, int n) {
            if (n > 6) {
                return -2;
            }
            try {
                train = fine ? new FineWheel[n] : new Wheel[n];
                return 1;
            } catch (NegativeArraySizeException e) {
                return tell(e);
            }
        }

        int dropTrain() {
            int was = train == null ? 0 : 1;
            train = null;
            return was;
        }

        int wheel(int i, int sort, int teeth) {
            if ((sort != 0 && sort != 1) || teeth < 1 || teeth > 200) {
                return -2;
            }
            try {
                train[i] = sort == 1 ? new FineWheel(teeth) : new Wheel(teeth);
                return 1;
            } catch (RuntimeException f) {
                return tell(f);
            }
        }

        int strike(int i) {
            try {
                return train[i].strikes();
            } catch (RuntimeException f) {
                return tell(f);
            }
        }

        int gear(int dial, int i) {
            if (!isDial(dial)) {
                return -1;
            }
            try {
                int teeth = train[i].teeth;
                if (kinds[dial] == 0) {
                    handF[dial] = leftF(handF[dial] * teeth, roundF[dial]);
                } else {
                    handD[dial] = leftD(handD[dial] * teeth, roundD[dial]);
                }
                return 1;
            } catch (RuntimeException f) {
                return tell(f);
            }
        }

        int count(int what) {
            int sum = 0;
            if (what == 1) {
                for (Object t : tables) {
                    sum += t == null ? 0 : 1;
                }
                return sum;
            }
            if (what == 2) {
                for (int k = 0; train != null && k < train.length; k++) {
                    sum += train[k] == null ? 0 : 1;
                }
                return sum;
            }
            return what == 0 ? dials : what >= 3 && what <= 8 ? findings[what - 2] : -2;
        }

        int clear() {
            int was = dials;
            dials = 0;
            java.util.Arrays.fill(tables, null);
            train = null;
            java.util.Arrays.fill(findings, 0);
            return was;
        }
    }

    private static final int[] ODD_INTS = {Integer.MIN_VALUE, Integer.MAX_VALUE, -1, -2, 7, 8, 12, 13, 200,
        201, 41, -41};
    private static final long[] ODD_LONGS = {Long.MIN_VALUE, Long.MAX_VALUE, Long.MAX_VALUE - 1, 1L << 53,
        (1L << 53) + 1, (1L << 24) + 1, 9223372036854774784L, 0x7fffffbfffffffffL, 0x8000004000000001L, 0, -1,
        // Rounds up to a float straight, and down by way of a double.
        (1L << 60) + (1L << 36) + 1};

    private final Random random;
    private final TideDials x = new TideDials();
    private final Model m = new Model();
    private String call = "";

    private ModelTest(long seed) {
        random = new Random(seed);
    }

    private int near(int below) {
        return random.nextInt(60) == 0 ? ODD_INTS[random.nextInt(ODD_INTS.length)] : random.nextInt(below);
    }

    private int anyN() {
        int pick = random.nextInt(8);
        return pick == 0 ? 0 : pick == 1 ? ODD_INTS[random.nextInt(ODD_INTS.length)]
            : pick == 2 ? random.nextInt() : random.nextInt(801) - 400;
    }

    private int roundN() {
        int n = anyN();
        return n <= 0 && random.nextInt(8) != 0 ? 1 + (n & 511) : n;
    }

    private int anyE() {
        int pick = random.nextInt(12);
        return pick == 0 ? 41 : pick == 1 ? -41 : pick < 5 ? random.nextInt(81) - 40 : random.nextInt(9) - 4;
    }

    private long anyLong() {
        int pick = random.nextInt(4);
        return pick == 0 ? ODD_LONGS[random.nextInt(ODD_LONGS.length)] : random.nextLong() >> random.nextInt(64);
    }

    /** Mostly the KIND of the table, so that runs come beyond CAST. */
    private int kindFor(int table) {
        int pick = random.nextInt(20);
        if (pick == 0) {
            return near(4) - 1;
        }
        if (pick < 3 || table < 0 || table > 5) {
            return random.nextInt(2);
        }
        return m.tables[table] instanceof double[] ? 1 : 0;
    }

    private static long told(RuntimeException e) {
        return e.getClass() == ClassCastException.class ? -3000000000000000003L
            : e.getClass() == NullPointerException.class ? -3000000000000000001L
            : e.getClass() == ArrayIndexOutOfBoundsException.class ? -3000000000000000002L : -3000000000000000009L;
    }

    private long numberOf(boolean ofModel, int table, int kind, int i) {
        try {
            return ofModel ? m.number(table, kind, i) : x.number(table, kind, i);
        } catch (RuntimeException e) {
            return told(e);
        }
    }

    private boolean same(String what, long got, long want) {
        if (got == want) {
            return true;
        }
        System.out.println(call + ": " + what + " " + got + ", due is " + want);
        return false;
    }

    private boolean makeOrMove() {
        int a = near(8);
        int t = near(6);
        int u = near(6);
        int i = near(6);
        int j = near(6);
        int n = anyN();
        int e = anyE();
        switch (random.nextInt(12)) {
            case 0: {
                int kind = near(3);
                int r = roundN();
                call = "dial(" + kind + ", " + r + ", " + e + ")";
                return same("answered", x.dial(kind, r, e), m.dial(kind, r, e));
            }
            case 1:
            case 2:
                call = "turn(" + a + ", " + n + ", " + e + ")";
                return same("answered", x.turn(a, n, e), m.turn(a, n, e));
            case 3: {
                int kind = near(3) & 3;
                int size = random.nextInt(6) == 0 ? near(14) - 1 : 4 + random.nextInt(3);
                call = "table(" + t + ", " + kind + ", " + size + ")";
                return same("answered", x.table(t, kind, size), m.table(t, kind, size));
            }
            case 4:
                if (random.nextInt(6) != 0) {
                    return true;
                }
                call = "drop(" + t + ")";
                return same("answered", x.drop(t), m.drop(t));
            case 5:
                call = "through(" + a + ", " + t + ")";
                return same("answered", x.through(a, t), m.through(a, t));
            case 6:
                return trainCall(i);
            case 7: {
                int sort = near(2);
                int teeth = random.nextInt(10) == 0 ? near(202) : 1 + random.nextInt(20);
                call = "wheel(" + i + ", " + sort + ", " + teeth + ")";
                return same("answered", x.wheel(i, sort, teeth), m.wheel(i, sort, teeth));
            }
            case 8:
                call = "strike(" + i + ")";
                return same("answered", x.strike(i), m.strike(i));
            case 9:
                call = "gear(" + a + ", " + i + ")";
                return same("answered", x.gear(a, i), m.gear(a, i));
            case 10: {
                boolean wide = random.nextBoolean();
                call = "cross(" + t + ", " + i + ", " + u + ", " + j + ", " + wide + ")";
                return same("answered", x.cross(t, i, u, j, wide), m.cross(t, i, u, j, wide));
            }
            default:
                if (random.nextInt(20) != 0) {
                    return true;
                }
                call = "clear()";
                return same("answered", x.clear(), m.clear());
        }
    }

    private boolean trainCall(int i) {
        if (random.nextInt(4) == 0) {
            call = "dropTrain()";
            return same("answered", x.dropTrain(), m.dropTrain());
        }
        boolean fine = random.nextBoolean();
        int n = i - (random.nextInt(4) == 0 ? 1 : -1);
        call = "train(" + fine + ", " + n + ")";
        return same("answered", x.train(fine, n), m.train(fine, n));
    }

    private boolean reckon() {
        int t = near(6);
        int u = random.nextBoolean() ? t : near(6);
        int kind = kindFor(t);
        int i = near(6);
        int j = near(6);
        int n = anyN();
        int e = anyE();
        switch (random.nextInt(8)) {
            case 0:
            case 1:
                call = "put(" + t + ", " + kind + ", " + i + ", " + n + ", " + e + ")";
                return same("answered", x.put(t, kind, i, n, e), m.put(t, kind, i, n, e));
            case 2:
                call = "left(" + t + ", " + kind + ", " + i + ", " + u + ", " + j + ")";
                return same("answered", x.left(t, kind, i, u, j), m.left(t, kind, i, u, j));
            case 3:
            case 4:
                call = "square(" + t + ", " + kind + ", " + i + ")";
                return same("answered", x.square(t, kind, i), m.square(t, kind, i));
            case 5: {
                int to = random.nextInt(20) == 0 ? near(7) - 1 : random.nextInt(5);
                call = "whole(" + t + ", " + kind + ", " + i + ", " + to + ")";
                return same("answered", x.whole(t, kind, i, to), m.whole(t, kind, i, to));
            }
            case 6: {
                long v = anyLong();
                call = "ofLong(" + t + ", " + kind + ", " + i + ", " + v + ")";
                return same("answered", x.ofLong(t, kind, i, v), m.ofLong(t, kind, i, v));
            }
            default:
                call = "often(" + t + ", " + kind + ", " + i + ", " + j + ")";
                return same("answered", x.often(t, kind, i, j), m.often(t, kind, i, j));
        }
    }

    private boolean sameState() {
        boolean good = true;
        for (int what = -1; what <= 9; what++) {
            good &= same("then count(" + what + ")", x.count(what), m.count(what));
        }
        for (int dial = -1; dial <= 8; dial++) {
            for (int what = -1; what <= 2; what++) {
                good &= same("then hand(" + dial + ", " + what + ")", x.hand(dial, what), m.hand(dial, what));
            }
        }
        for (int table = -1; table <= 6; table++) {
            for (int kind = -1; kind <= 2; kind++) {
                boolean there = table >= 0 && table < 6 && m.tables[table] != null;
                for (int i = -1; i <= (there ? 12 : 0); i++) {
                    good &= same("then number(" + table + ", " + kind + ", " + i + ")",
                        numberOf(false, table, kind, i), numberOf(true, table, kind, i));
                }
            }
        }
        return good;
    }

    private boolean run() {
        for (int k = 0; k < CALLS; k++) {
            boolean good = random.nextBoolean() ? makeOrMove() : reckon();
            // These readings come on top of the 512 calls, as no reading is to change the state.
            if (!good || (k % 64 == 63 || k < 4) && !sameState()) {
                System.out.println("in call " + (k + 1));
                return false;
            }
        }
        return true;
    }

    public static void main(String[] args) {
        int[] seen = new int[7];
        for (int seed = 1; seed <= RUNS; seed++) {
            ModelTest test = new ModelTest(seed);
            if (!test.run()) {
                System.out.println("run with seed " + seed + " is not as due");
                System.exit(1);
            }
            for (int k = 1; k <= 6; k++) {
                seen[k] += test.m.findings[k];
            }
        }
        for (int k = 1; k <= 6; k++) {
            if (seen[k] < 1000) {
                System.out.println("the runs met FINDING " + k + " only " + seen[k] + " times");
                System.exit(1);
            }
        }
        System.out.println("all " + RUNS + " runs answer as Java itself does");
    }
}
