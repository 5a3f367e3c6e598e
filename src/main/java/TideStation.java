/** Tide stations with rows of readings, periods and weights, and racks of meters. */
public final class TideStation {
    public static final int NONE = -1, BAD = -2, NULL = -3, INDEX = -4, SIZE = -5, CAST = -6, STORE = -7;

    private static final int STATIONS = 6, ROWS = 3, PLACES = 4;
    private static final int READINGS = 0, PERIODS = 1, WEIGHTS = 2;
    private static final int NOTHING = 0, FLOAT_METER = 2;
    private static final int MOST_ITEMS = 24, MOST_POWER = 160, MOST_STEP = 1000;
    private static final int COUNTED_REASONS = 6, COUNT_OF_NONE = 5;

    /** The rows of station s stand at s * ROWS; null is MISSING, and stations that share hold one Row. */
    private final Row[] rows = new Row[STATIONS * ROWS];
    private final Rack[] racks = new Rack[STATIONS];
    private final int[] refusals = new int[COUNTED_REASONS];
    private int latest = 0;

    public TideStation() {
    }

    public int row(int station, int which, int n) {
        if (!isRow(station, which) || n > MOST_ITEMS) {
            return refuse(BAD);
        }
        if (n < 0) {
            return refuse(SIZE);
        }
        rows[placeOf(station, which)] = newRow(which, n);
        return done();
    }

    public int lose(int station, int which) {
        if (!isRow(station, which)) {
            return refuse(BAD);
        }
        int place = placeOf(station, which);
        int was = rows[place] == null ? 0 : 1;
        rows[place] = null;
        done();
        return was;
    }

    public int share(int station, int which, int other) {
        if (!isRow(station, which) || !isStation(other)) {
            return refuse(BAD);
        }
        rows[placeOf(station, which)] = rows[placeOf(other, which)];
        return done();
    }

    public int size(int station, int which) {
        if (!isRow(station, which)) {
            return refuse(BAD);
        }
        Row row = rows[placeOf(station, which)];
        if (row == null) {
            return refuse(NULL);
        }
        done();
        return row.count();
    }

    public int put(int station, int which, int i, int v, int p) {
        if (!isRow(station, which) || !isPower(p)) {
            return refuse(BAD);
        }
        Row row = rows[placeOf(station, which)];
        int lack = lackOfItem(row, i);
        if (lack != 0) {
            return refuse(lack);
        }
        row.become(i, Binary.scaled(v, p));
        return done();
    }

    public long get(int station, int which, int i) {
        if (!isRow(station, which)) {
            return zero(BAD);
        }
        Row row = rows[placeOf(station, which)];
        int lack = lackOfItem(row, i);
        if (lack != 0) {
            return zero(lack);
        }
        done();
        return row.bits(i);
    }

    public int move(int station, int from, int i, int to, int j) {
        if (!isRow(station, from) || !isRow(station, to)) {
            return refuse(BAD);
        }
        Row source = rows[placeOf(station, from)];
        Row target = rows[placeOf(station, to)];
        int lack = lackOfItem(source, i);
        if (lack == 0) {
            lack = lackOfItem(target, j);
        }
        if (lack != 0) {
            return refuse(lack);
        }
        target.take(j, source, i);
        return done();
    }

    public long rest(int station, int i, int j) {
        if (!isStation(station)) {
            return zero(BAD);
        }
        Row readings = rows[placeOf(station, READINGS)];
        int lack = lackOfRest(readings, i, j);
        if (lack != 0) {
            return zero(lack);
        }
        done();
        return Binary.floatBits(Binary.floatRest(readings.asFloat(i), readings.asFloat(j)));
    }

    public int step(int station, int i, int j) {
        if (!isStation(station)) {
            return refuse(BAD);
        }
        Row readings = rows[placeOf(station, READINGS)];
        int lack = lackOfRest(readings, i, j);
        if (lack != 0) {
            return refuse(lack);
        }
        readings.become(i, Binary.folded(readings.asFloat(i), readings.asFloat(j)));
        return done();
    }

    public long whole(int station, int i) {
        if (!isStation(station)) {
            return zero(BAD);
        }
        Row readings = rows[placeOf(station, READINGS)];
        int lack = lackOfItem(readings, i);
        if (lack != 0) {
            return zero(lack);
        }
        done();
        return readings.asLong(i);
    }

    public long phase(int station, int k, int v, int p) {
        if (!isStation(station) || !isPower(p)) {
            return zero(BAD);
        }
        Row periods = rows[placeOf(station, PERIODS)];
        int lack = lackOfItem(periods, k);
        if (lack != 0) {
            return zero(lack);
        }
        double time = Binary.scaled(v, p);
        double period = periods.asDouble(k);
        if (!Binary.hasRest(time, period)) {
            return zero(NONE);
        }
        done();
        return Binary.doubleBits(Binary.doubleRest(time, period));
    }

    public long tide(int station, int v, int p) {
        if (!isStation(station) || !isPower(p)) {
            return zero(BAD);
        }
        Row periods = rows[placeOf(station, PERIODS)];
        if (periods == null) {
            return zero(NULL);
        }
        Row weights = rows[placeOf(station, WEIGHTS)];
        double time = Binary.scaled(v, p);
        double sum = 0.0;
        for (int k = 0; k < periods.count(); k++) {
            double period = periods.asDouble(k);
            if (period == 0 || Binary.isEndless(period)) {
                continue;
            }
            int lack = lackOfItem(weights, k);
            if (lack != 0) {
                return zero(lack);
            }
            sum = sum + waveHeight(time, Binary.withoutSign(period)) * weights.asDouble(k);
        }
        done();
        return Binary.doubleBits(sum);
    }

    public int rack(int station, boolean narrow) {
        if (!isStation(station)) {
            return refuse(BAD);
        }
        racks[station] = new Rack(narrow);
        return done();
    }

    public int hang(int station, int i, int kind, int s) {
        if (!isStation(station) || !isMeterKind(kind, s)) {
            return refuse(BAD);
        }
        Rack rack = racks[station];
        int lack = lackOfPlace(rack, i);
        if (lack != 0) {
            return refuse(lack);
        }
        Meter meter = newMeter(kind, s);
        if (!rack.accepts(meter)) {
            return refuse(STORE);
        }
        rack.places[i] = meter;
        return done();
    }

    public int read(int station, int i, int x) {
        if (!isStation(station)) {
            return zero(BAD);
        }
        Rack rack = racks[station];
        Row readings = rows[placeOf(station, READINGS)];
        int lack = lackOfPlace(rack, i);
        if (lack == 0) {
            lack = lackOfItem(readings, x);
        }
        if (lack != 0) {
            return zero(lack);
        }
        Meter meter = rack.places[i];
        if (meter == null) {
            return zero(NULL);
        }
        done();
        return meter.shown(readings.asFloat(x));
    }

    public int stepOf(int station, int i) {
        if (!isStation(station)) {
            return refuse(BAD);
        }
        Rack rack = racks[station];
        int lack = lackOfPlace(rack, i);
        if (lack != 0) {
            return refuse(lack);
        }
        Meter meter = rack.places[i];
        if (meter == null) {
            return refuse(NULL);
        }
        if (meter instanceof FloatMeter floatMeter) {
            done();
            return floatMeter.sixtyFourths;
        }
        return refuse(CAST);
    }

    public int refused(int what) {
        if (what < 0 || what >= COUNTED_REASONS) {
            return BAD;
        }
        return refusals[what];
    }

    public int why() {
        return latest;
    }

    private int done() {
        latest = 0;
        return 1;
    }

    private int refuse(int reason) {
        latest = reason;
        if (reason == NONE) {
            refusals[COUNT_OF_NONE]++;
        } else if (reason <= NULL && reason >= STORE) {
            refusals[NULL - reason]++;
        }
        return reason;
    }

    /** Refuses a call that may answer any number, so that only why() can tell. */
    private int zero(int reason) {
        refuse(reason);
        return 0;
    }

    private static boolean isStation(int station) {
        return station >= 0 && station < STATIONS;
    }

    private static boolean isRow(int station, int which) {
        return isStation(station) && which >= 0 && which < ROWS;
    }

    private static boolean isPower(int p) {
        return p >= -MOST_POWER && p <= MOST_POWER;
    }

    private static boolean isMeterKind(int kind, int s) {
        if (kind == FLOAT_METER) {
            return s >= 1 && s <= MOST_STEP;
        }
        return kind >= NOTHING && kind < FLOAT_METER;
    }

    private static int placeOf(int station, int which) {
        return station * ROWS + which;
    }

    private static int lackOfItem(Row row, int i) {
        if (row == null) {
            return NULL;
        }
        return i >= 0 && i < row.count() ? 0 : INDEX;
    }

    private static int lackOfRest(Row readings, int i, int j) {
        int lack = lackOfItem(readings, i);
        if (lack == 0) {
            lack = lackOfItem(readings, j);
        }
        if (lack != 0) {
            return lack;
        }
        return Binary.hasRest(readings.asFloat(i), readings.asFloat(j)) ? 0 : NONE;
    }

    private static int lackOfPlace(Rack rack, int i) {
        if (rack == null) {
            return NULL;
        }
        return i >= 0 && i < rack.places.length ? 0 : INDEX;
    }

    private static Row newRow(int which, int n) {
        if (which == READINGS) {
            return new Readings(n);
        }
        return which == PERIODS ? new Periods(n) : new Weights(n);
    }

    private static Meter newMeter(int kind, int s) {
        if (kind == NOTHING) {
            return null;
        }
        return kind == FLOAT_METER ? new FloatMeter(s) : new Meter();
    }

    private static double waveHeight(double time, double period) {
        double since = Binary.doubleRest(time, period);
        if (since < 0) {
            since = since + period;
        }
        double until = period - since;
        return since <= until ? since : until;
    }

    /** A row that turns its items into each kind itself, so that no number is rounded twice on its way. */
    private abstract static class Row {
        abstract int count();

        abstract float asFloat(int i);

        abstract double asDouble(int i);

        abstract long asLong(int i);

        abstract long bits(int i);

        abstract void become(int i, double number);

        abstract void take(int i, Row source, int j);
    }

    private static final class Readings extends Row {
        private final float[] items;

        Readings(int n) {
            items = new float[n];
        }

        int count() {
            return items.length;
        }

        float asFloat(int i) {
            return items[i];
        }

        double asDouble(int i) {
            return items[i];
        }

        long asLong(int i) {
            return (long) items[i];
        }

        long bits(int i) {
            return Binary.floatBits(items[i]);
        }

        void become(int i, double number) {
            items[i] = (float) number;
        }

        void take(int i, Row source, int j) {
            items[i] = source.asFloat(j);
        }
    }

    private static final class Periods extends Row {
        private final double[] items;

        Periods(int n) {
            items = new double[n];
        }

        int count() {
            return items.length;
        }

        float asFloat(int i) {
            return (float) items[i];
        }

        double asDouble(int i) {
            return items[i];
        }

        long asLong(int i) {
            return (long) items[i];
        }

        long bits(int i) {
            return Binary.doubleBits(items[i]);
        }

        void become(int i, double number) {
            items[i] = number;
        }

        void take(int i, Row source, int j) {
            items[i] = source.asDouble(j);
        }
    }

    private static final class Weights extends Row {
        private final long[] items;

        Weights(int n) {
            items = new long[n];
        }

        int count() {
            return items.length;
        }

        float asFloat(int i) {
            return (float) items[i];
        }

        double asDouble(int i) {
            return (double) items[i];
        }

        long asLong(int i) {
            return items[i];
        }

        long bits(int i) {
            return items[i];
        }

        void become(int i, double number) {
            items[i] = (long) number;
        }

        void take(int i, Row source, int j) {
            items[i] = source.asLong(j);
        }
    }

    private static final class Rack {
        private final boolean narrow;
        private final Meter[] places = new Meter[PLACES];

        Rack(boolean narrow) {
            this.narrow = narrow;
        }

        boolean accepts(Meter meter) {
            return !narrow || meter == null || meter instanceof FloatMeter;
        }
    }

    private static class Meter {
        int shown(float x) {
            return (int) x;
        }
    }

    private static final class FloatMeter extends Meter {
        private final int sixtyFourths;

        FloatMeter(int sixtyFourths) {
            this.sixtyFourths = sixtyFourths;
        }

        int shown(float x) {
            float size = sixtyFourths / 64.0f;
            return (int) (Binary.hasRest(x, size) ? Binary.folded(x, size) : x);
        }
    }

    /**
     * Floats and doubles taken apart and put together by arithmetic alone, as LANGUAGE.md leaves out
     * both the library's bits and %. All that an object can hold or sum up is a multiple of 2 to the -160
     * and below 2 to the 260, or endless: so no double here is ever too small to have its leading bit.
     */
    private static final class Binary {
        private static final int FRACTION_BITS = 52, BIAS = 1023, LEAST_EXPONENT = -1022;
        private static final long LEADING_BIT = 1L << FRACTION_BITS, FRACTION = LEADING_BIT - 1;
        private static final long DOUBLE_SIGN = 1L << 63, ENDLESS_DOUBLE = 2047L << FRACTION_BITS;
        private static final int FLOAT_FRACTION_BITS = 23, FLOAT_BIAS = 127;
        private static final int FLOAT_SIGN = 1 << 31, ENDLESS_FLOAT = 255 << FLOAT_FRACTION_BITS;
        private static final int LAST_FLOAT_PLACE = 149;
        /** A remainder below 2 to the 53, shifted by this much, still fits a long. */
        private static final int SHIFT_AT_ONCE = 10;

        /** x times 2 to the p, by squares, so that a p of some hundreds takes few rounds. */
        static double scaled(double x, int p) {
            double result = x;
            double power = 2.0;
            for (int left = Math.abs(p); left > 0; left >>= 1) {
                if ((left & 1) != 0) {
                    result = p < 0 ? result / power : result * power;
                }
                power = power * power;
            }
            return result;
        }

        /** Only 0 and the endless numbers are their own doubles. */
        static boolean isEndless(double x) {
            return x != 0 && x + x == x;
        }

        /** -0 compares as 0 does, and only its quotient shows the sign. */
        static boolean isMinus(double x) {
            return x < 0 || (x == 0 && 1.0 / x < 0);
        }

        static double withoutSign(double x) {
            return x < 0 ? 0.0 - x : x;
        }

        static boolean hasRest(double x, double y) {
            return y != 0 && !isEndless(x);
        }

        /** The rest of two floats is a float, so that nothing is lost on the way back. */
        static float floatRest(float x, float y) {
            return (float) doubleRest(x, y);
        }

        /** x less its rest, rounded as a float; for x and y that have a rest. */
        static float folded(float x, float y) {
            return x - floatRest(x, y);
        }

        /** The rest of x by y, for those that have one: a long division of the fractions, so that it is exact. */
        static double doubleRest(double x, double y) {
            if (x == 0 || y == 0 || isEndless(x) || isEndless(y)) {
                return x;
            }
            long dividend = doubleBits(x);
            long divisor = doubleBits(y);
            int shift = exponentOf(dividend) - exponentOf(divisor);
            if (shift < 0) {
                return x;
            }
            long part = fractionOf(divisor);
            long left = fractionOf(dividend) % part;
            while (shift > 0) {
                int now = Math.min(shift, SHIFT_AT_ONCE);
                left = (left << now) % part;
                shift -= now;
            }
            double size = scaled((double) left, exponentOf(divisor) - FRACTION_BITS);
            // a product, as a difference would lose the sign of 0
            return x < 0 ? size * -1.0 : size;
        }

        static long doubleBits(double x) {
            long sign = isMinus(x) ? DOUBLE_SIGN : 0;
            if (x == 0) {
                return sign;
            }
            if (isEndless(x)) {
                return sign | ENDLESS_DOUBLE;
            }
            double size = withoutSign(x);
            int exponent = 0;
            if (size < 1) {
                size = scaled(size, -LEAST_EXPONENT);
                exponent = LEAST_EXPONENT;
            }
            for (int jump = 512; jump > 0; jump >>= 1) {
                double power = scaled(1.0, jump);
                if (size >= power) {
                    size = size / power;
                    exponent += jump;
                }
            }
            long fraction = (long) scaled(size, FRACTION_BITS) & FRACTION;
            return sign | (long) (exponent + BIAS) << FRACTION_BITS | fraction;
        }

        /** The bits of a float, the sign spread. */
        static int floatBits(float x) {
            int sign = isMinus(x) ? FLOAT_SIGN : 0;
            if (isEndless(x)) {
                return sign | ENDLESS_FLOAT;
            }
            long bits = doubleBits(x);
            int exponent = exponentOf(bits) + FLOAT_BIAS;
            if (exponent <= 0) {
                // too small for a leading bit (0, too): the fraction counts last places
                return sign | (int) scaled(withoutSign(x), LAST_FLOAT_PLACE);
            }
            int fraction = (int) ((bits & FRACTION) >> (FRACTION_BITS - FLOAT_FRACTION_BITS));
            return sign | exponent << FLOAT_FRACTION_BITS | fraction;
        }

        private static int exponentOf(long bits) {
            return (int) ((bits & ENDLESS_DOUBLE) >> FRACTION_BITS) - BIAS;
        }

        /** Never 0, as the leading bit is in it. */
        private static long fractionOf(long bits) {
            return bits & FRACTION | LEADING_BIT;
        }
    }
}
