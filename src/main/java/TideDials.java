public final class TideDials {
    public static final int UNKNOWN = -1, OUTSIDE = -2, FULL = -4;

    private static final int FLOATS = 0, DOUBLES = 1;
    private static final int PLAIN = 0, FINE = 1;
    private static final int NONE = 0, NOTHING = 1, BEYOND = 2, CAST = 3, SIZE = 4, STORE = 5, ZERO = 6;
    private static final int FIRST_FINDING_ANSWER = -20;
    private static final long FAR_BELOW = 4000000000000000000L;
    private static final int MOST_DIALS = 8, MOST_TABLES = 6, MOST_PLACES = 12, MOST_WHEELS = 6;
    private static final int MOST_TEETH = 200, MOST_POWER = 40;

    private final Dial[] dials = new Dial[MOST_DIALS];
    private final Row[] rows = new Row[MOST_TABLES];
    private final Train wheels = new Train();
    private final int[] findings = new int[ZERO + 1];
    private int dialCount = 0;

    public TideDials() {
        for (int k = 0; k < MOST_DIALS; k++) {
            dials[k] = new Dial();
        }
        for (int k = 0; k < MOST_TABLES; k++) {
            rows[k] = new Row();
        }
    }

    public int dial(int kind, int n, int e) {
        if (!isKind(kind) || !isPower(e)) {
            return OUTSIDE;
        }
        double round = Reckoning.given(kind, n, e);
        if (!(round > 0.0)) {
            return OUTSIDE;
        }
        if (dialCount >= MOST_DIALS) {
            return FULL;
        }
        Dial fresh = dials[dialCount];
        fresh.kind = kind;
        fresh.hand = 0.0;
        fresh.round = round;
        dialCount++;
        return dialCount - 1;
    }

    public int turn(int dial, int n, int e) {
        if (!isDial(dial)) {
            return UNKNOWN;
        }
        if (!isPower(e)) {
            return OUTSIDE;
        }
        Dial turned = dials[dial];
        if (!turned.turnBy(Reckoning.given(turned.kind, n, e))) {
            return found(ZERO);
        }
        return 1;
    }

    public long hand(int dial, int what) {
        if (!isDial(dial) || what < 0 || what > 1) {
            return 0L;
        }
        Dial asked = dials[dial];
        return Reckoning.bits(asked.kind, what == 0 ? asked.hand : asked.round);
    }

    public int table(int table, int kind, int n) {
        if (!isTable(table)) {
            return UNKNOWN;
        }
        if (!isKind(kind) || n > MOST_PLACES) {
            return OUTSIDE;
        }
        if (n < 0) {
            return found(SIZE);
        }
        rows[table].begin(kind, n);
        return 1;
    }

    public int drop(int table) {
        if (!isTable(table)) {
            return UNKNOWN;
        }
        boolean was = rows[table].there;
        rows[table].there = false;
        return was ? 1 : 0;
    }

    public int put(int table, int kind, int i, int n, int e) {
        if (!isTable(table)) {
            return UNKNOWN;
        }
        if (!isKind(kind) || !isPower(e)) {
            return OUTSIDE;
        }
        Row row = rows[table];
        int finding = row.against(kind, i);
        if (finding != NONE) {
            return found(finding);
        }
        row.places[i] = Reckoning.given(kind, n, e);
        return 1;
    }

    public long number(int table, int kind, int i)
            throws ClassCastException, NullPointerException, ArrayIndexOutOfBoundsException {
        if (!isTable(table) || !isKind(kind)) {
            return 0L;
        }
        Row row = rows[table];
        switch (row.against(kind, i)) {
            case CAST:
                throw new ClassCastException("the table is of the other kind");
            case NOTHING:
                throw new NullPointerException("the table is missing");
            case BEYOND:
                throw new ArrayIndexOutOfBoundsException("the table has no such place");
            default:
                return Reckoning.bits(kind, row.places[i]);
        }
    }

    public int left(int table, int kind, int i, int other, int j) {
        if (!isTable(table) || !isTable(other)) {
            return UNKNOWN;
        }
        if (!isKind(kind)) {
            return OUTSIDE;
        }
        Row row = rows[table];
        Row by = rows[other];
        int finding = row.isOtherThan(kind) || by.isOtherThan(kind) ? CAST : row.against(kind, i);
        if (finding == NONE) {
            finding = by.against(kind, j);
        }
        if (finding == NONE && !Reckoning.leaves(row.places[i], by.places[j])) {
            finding = ZERO;
        }
        if (finding != NONE) {
            return found(finding);
        }
        row.places[i] = Reckoning.leftOf(row.places[i], by.places[j]);
        return 1;
    }

    public int square(int table, int kind, int i) {
        if (!isTable(table)) {
            return UNKNOWN;
        }
        if (!isKind(kind)) {
            return OUTSIDE;
        }
        Row row = rows[table];
        int finding = row.against(kind, i);
        if (finding != NONE) {
            return found(finding);
        }
        row.places[i] = Reckoning.product(kind, row.places[i], row.places[i]);
        return 1;
    }

    public int cross(int from, int i, int to, int j, boolean wide) {
        if (!isTable(from) || !isTable(to)) {
            return UNKNOWN;
        }
        int kindRead = wide ? FLOATS : DOUBLES;
        int kindWritten = wide ? DOUBLES : FLOATS;
        Row read = rows[from];
        Row written = rows[to];
        int finding = read.against(kindRead, i);
        if (finding == NONE) {
            finding = written.against(kindWritten, j);
        }
        if (finding != NONE) {
            return found(finding);
        }
        written.places[j] = Reckoning.inKind(kindWritten, read.places[i]);
        return 1;
    }

    public long whole(int table, int kind, int i, int to) {
        if (!isTable(table)) {
            return UNKNOWN - FAR_BELOW;
        }
        if (!isKind(kind) || to < 0 || to > 4) {
            return OUTSIDE - FAR_BELOW;
        }
        Row row = rows[table];
        int finding = row.against(kind, i);
        if (finding != NONE) {
            return found(finding) - FAR_BELOW;
        }
        return Reckoning.castTo(to, row.places[i]);
    }

    public int ofLong(int table, int kind, int i, long v) {
        if (!isTable(table)) {
            return UNKNOWN;
        }
        if (!isKind(kind)) {
            return OUTSIDE;
        }
        Row row = rows[table];
        int finding = row.against(kind, i);
        if (finding != NONE) {
            return found(finding);
        }
        // A long goes to a float in one step: by way of a double it would round twice.
        row.places[i] = kind == FLOATS ? (double) (float) v : (double) v;
        return (long) row.places[i] == v ? 1 : 0;
    }

    public int through(int dial, int table) {
        if (!isDial(dial) || !isTable(table)) {
            return UNKNOWN;
        }
        Row row = rows[table];
        if (!row.there) {
            return found(NOTHING);
        }
        Dial turned = dials[dial];
        for (int k = 0; k < row.size; k++) {
            if (!turned.turnBy(Reckoning.inKind(turned.kind, row.places[k]))) {
                found(ZERO);
                return k;
            }
        }
        return row.size;
    }

    public long often(int table, int kind, int i, int j) {
        if (!isTable(table)) {
            return UNKNOWN - FAR_BELOW;
        }
        if (!isKind(kind)) {
            return OUTSIDE - FAR_BELOW;
        }
        Row row = rows[table];
        int finding = row.against(kind, j);
        if (finding == NONE) {
            finding = row.against(kind, i);
        }
        if (finding == NONE && !Reckoning.leaves(row.places[j], row.places[i])) {
            finding = ZERO;
        }
        if (finding != NONE) {
            return found(finding) - FAR_BELOW;
        }
        return Reckoning.timesInto(kind, row.places[i], row.places[j]);
    }

    public int train(boolean fine, int n) {
        if (n > MOST_WHEELS) {
            return OUTSIDE;
        }
        if (n < 0) {
            return found(SIZE);
        }
        wheels.begin(fine, n);
        return 1;
    }

    public int dropTrain() {
        boolean was = wheels.there;
        wheels.there = false;
        return was ? 1 : 0;
    }

    public int wheel(int i, int sort, int teeth) {
        if (sort < PLAIN || sort > FINE || teeth < 1 || teeth > MOST_TEETH) {
            return OUTSIDE;
        }
        int finding = wheels.againstPlace(i);
        if (finding == NONE && wheels.fineAlone && sort != FINE) {
            finding = STORE;
        }
        if (finding != NONE) {
            return found(finding);
        }
        wheels.sorts[i] = sort;
        wheels.teeth[i] = teeth;
        return 1;
    }

    public int strike(int i) {
        int finding = wheels.againstWheel(i);
        if (finding != NONE) {
            return found(finding);
        }
        return 10 * wheels.teeth[i] + (wheels.sorts[i] == FINE ? 7 : 0);
    }

    public int gear(int dial, int i) {
        if (!isDial(dial)) {
            return UNKNOWN;
        }
        int finding = wheels.againstWheel(i);
        if (finding != NONE) {
            return found(finding);
        }
        Dial geared = dials[dial];
        // A HAND stays below its ROUND, so TEETH never make it endless.
        geared.comeTo(Reckoning.product(geared.kind, geared.hand, wheels.teeth[i]));
        return 1;
    }

    public int count(int what) {
        switch (what) {
            case 0:
                return dialCount;
            case 1:
                return countTables();
            case 2:
                return wheels.countWheels();
            default:
                return what >= 3 && what <= 8 ? findings[what - 2] : OUTSIDE;
        }
    }

    public int clear() {
        int before = dialCount;
        dialCount = 0;
        for (int k = 0; k < MOST_TABLES; k++) {
            rows[k].there = false;
        }
        wheels.there = false;
        for (int k = 0; k < findings.length; k++) {
            findings[k] = 0;
        }
        return before;
    }

    private int countTables() {
        int there = 0;
        for (int k = 0; k < MOST_TABLES; k++) {
            if (rows[k].there) {
                there++;
            }
        }
        return there;
    }

    private int found(int finding) {
        findings[finding]++;
        return FIRST_FINDING_ANSWER - finding;
    }

    private boolean isDial(int dial) {
        return dial >= 0 && dial < dialCount;
    }

    private static boolean isTable(int table) {
        return table >= 0 && table < MOST_TABLES;
    }

    private static boolean isKind(int kind) {
        return kind == FLOATS || kind == DOUBLES;
    }

    private static boolean isPower(int e) {
        return e >= -MOST_POWER && e <= MOST_POWER;
    }

    private static final class Dial {
        private int kind = FLOATS;
        private double hand = 0.0;
        private double round = 1.0;

        /** False, and nothing changed, where the sum is endless. */
        private boolean turnBy(double s) {
            return comeTo(Reckoning.sum(kind, hand, s));
        }

        /** False, and nothing changed, where the way is endless. */
        private boolean comeTo(double way) {
            if (!Reckoning.leaves(way, round)) {
                return false;
            }
            hand = Reckoning.leftOf(way, round);
            return true;
        }
    }

    /** A TABLE. Every float is a double too, so one row of doubles serves both KINDS. */
    private static final class Row {
        private boolean there = false;
        private int kind = FLOATS;
        private int size = 0;
        private final double[] places = new double[MOST_PLACES];

        private void begin(int newKind, int newSize) {
            there = true;
            kind = newKind;
            size = newSize;
            for (int k = 0; k < places.length; k++) {
                places[k] = 0.0;
            }
        }

        /** A MISSING row may be TAKEN for each KIND. */
        private boolean isOtherThan(int wanted) {
            return there && kind != wanted;
        }

        /** The FINDING that bars place i of the row, TAKEN for a KIND. */
        private int against(int wanted, int i) {
            if (isOtherThan(wanted)) {
                return CAST;
            }
            if (!there) {
                return NOTHING;
            }
            return i >= 0 && i < size ? NONE : BEYOND;
        }
    }

    /** THE TRAIN. A place without TEETH has no WHEEL, as each WHEEL has one TOOTH at least. */
    private static final class Train {
        private boolean there = false;
        private boolean fineAlone = false;
        private int size = 0;
        private final int[] sorts = new int[MOST_WHEELS];
        private final int[] teeth = new int[MOST_WHEELS];

        private void begin(boolean fine, int newSize) {
            there = true;
            fineAlone = fine;
            size = newSize;
            for (int k = 0; k < MOST_WHEELS; k++) {
                sorts[k] = PLAIN;
                teeth[k] = 0;
            }
        }

        private int againstPlace(int i) {
            if (!there) {
                return NOTHING;
            }
            return i >= 0 && i < size ? NONE : BEYOND;
        }

        private int againstWheel(int i) {
            int finding = againstPlace(i);
            if (finding != NONE) {
                return finding;
            }
            return teeth[i] == 0 ? NOTHING : NONE;
        }

        private int countWheels() {
            int turning = 0;
            for (int k = 0; there && k < size; k++) {
                if (teeth[k] != 0) {
                    turning++;
                }
            }
            return turning;
        }
    }

    /** What the KINDS reckon, with + - * / and casts alone: LANGUAGE.md leaves no % and no library here. */
    private static final class Reckoning {
        private static double inKind(int kind, double x) {
            return kind == FLOATS ? (double) (float) x : x;
        }

        private static double sum(int kind, double x, double y) {
            return kind == FLOATS ? (double) ((float) x + (float) y) : x + y;
        }

        private static double product(int kind, double x, double y) {
            return kind == FLOATS ? (double) ((float) x * (float) y) : x * y;
        }

        /** The divisor is never 0.0 here: leaves() comes first. */
        private static double quotient(int kind, double x, double y) {
            return kind == FLOATS ? (double) ((float) x / (float) y) : x / y;
        }

        private static double size(double x) {
            return x < 0.0 ? -x : x;
        }

        private static boolean isEndless(double x) {
            return size(x) > 1.7976931348623157E308;
        }

        private static double given(int kind, int n, int e) {
            double power = 1.0;
            for (int k = 0; k < e; k++) {
                power *= 2.0;
            }
            for (int k = 0; k > e; k--) {
                power *= 0.5;
            }
            return inKind(kind, n * power);
        }

        /** Whether LEFT of x by y is a number: if not, it is ZERO. */
        private static boolean leaves(double x, double y) {
            return y != 0.0 && !isEndless(x);
        }

        /**
         * LEFT of x by y, by long division in base two: y is doubled as often as it fits into x, then taken
         * away on the way back. No step rounds, as a number is taken only from one below its double. What is
         * left of two floats is a float, so both KINDS share this.
         */
        private static double leftOf(double x, double y) {
            double rest = size(x);
            double part = size(y);
            if (rest < part) {
                return x;
            }
            int doublings = 0;
            // From the least double to the greatest there are fewer than 2100 doublings.
            while (doublings < 2100 && part <= rest * 0.5) {
                part *= 2.0;
                doublings++;
            }
            for (int k = doublings; k >= 0; k--) {
                if (rest >= part) {
                    rest -= part;
                }
                part *= 0.5;
            }
            return x < 0.0 ? -rest : rest;
        }

        private static long timesInto(int kind, double part, double all) {
            double even = sum(kind, all, -leftOf(all, part));
            return (long) quotient(kind, even, part);
        }

        private static long castTo(int to, double x) {
            switch (to) {
                case 1:
                    return (long) x;
                case 2:
                    return (short) (int) x;
                case 3:
                    return (char) (int) x;
                case 4:
                    return (byte) (int) x;
                default:
                    return (int) x;
            }
        }

        private static boolean hasMinus(double x) {
            // Only the endless number that a division by it answers tells -0.0 from 0.0.
            return x < 0.0 || x == 0.0 && 1.0 / x < 0.0;
        }

        private static long bits(int kind, double x) {
            long sign = kind == FLOATS ? -1L << 31 : -1L << 63;
            long rest = kind == FLOATS ? bitsOfSize(size(x), 23, 255) : bitsOfSize(size(x), 52, 2047);
            return hasMinus(x) ? sign + rest : rest;
        }

        /**
         * The bits but for the sign. The number is doubled or halved till its digits stand ahead of the point
         * as they stand in the bits, or till the least power, where they stay as they are (below the first
         * normal number). The digit that normal numbers do not write raises the power's field by one.
         */
        private static long bitsOfSize(double x, int digits, int endlessField) {
            if (x == 0.0) {
                return 0L;
            }
            if (isEndless(x)) {
                return (long) endlessField << digits;
            }
            double least = (double) (1L << digits);
            double moved = x;
            int field = endlessField / 2 + digits;
            while (field < endlessField && moved >= 2.0 * least) {
                moved *= 0.5;
                field++;
            }
            while (field > 1 && moved < least) {
                moved *= 2.0;
                field--;
            }
            return ((long) (field - 1) << digits) + (long) moved;
        }
    }
}
