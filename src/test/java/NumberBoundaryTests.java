/** The ends and edges of NUMBERS, FLOATS, LONGS and ints, of THE REST, of waves and of what meters read. */
public final class NumberBoundaryTests {
    private static final int NONE = -1, INDEX = -4, NULL = -3;
    private static final int READINGS = 0, PERIODS = 1, WEIGHTS = 2;
    private static final int LEAST = Integer.MIN_VALUE, MOST = Integer.MAX_VALUE;
    private static final float ENDLESS = Float.POSITIVE_INFINITY, MINUS_ENDLESS = Float.NEGATIVE_INFINITY;

    private static int wrong = 0;

    public static void main(String[] args) {
        numberIsJustThatAsADouble();
        floatIsTheNearest();
        smallestFloats();
        floatIsEndlessFromHalfALastPlaceOn();
        longIsCutTowardZero();
        longIsTheNearestEnd();
        longAsFloatIsTheNearest();
        longAsDoubleIsTheNearest();
        floatAsDoubleIsTheSame();
        longAsLongIsTheSame();
        floatAsLong();
        intIsTheNearestEnd();
        bitsOfAFloatAreSpread();
        restHasTheSignOfX();
        restOfZeroHasTheSignOfX();
        restOfLessIsItself();
        restByEndlessIsX();
        restOfTheFarthestApart();
        restIsNoneByZeroOrOfEndless();
        stepRoundsAsAFloat();
        stepToZero();
        phaseByEveryKindOfPeriod();
        phaseIsNoneByZero();
        tideOfNoWaves();
        tideAtTheEdgesOfAPeriod();
        tideBelowZero();
        tideOfAPeriodBelowZero();
        tideFromPeriodZeroOn();
        tideOfAWeightAsADouble();
        tideOfRoundedProducts();
        tideNeedsWeightsForWavesAlone();
        tideNeedsNoWeightWhereNoWaveIs();
        tideOfTheGreatest();
        floatMeterAtTheEdgesOfAStep();
        floatMeterReadsAsFloats();
        floatMeterAtTheEnds();
        System.out.println(wrong == 0 ? "all numbers are as told" : wrong + " numbers are not as told");
        if (wrong != 0) {
            System.exit(1);
        }
    }

    private static void due(String what, long got, long want) {
        if (got != want) {
            wrong++;
            System.out.println(what + ": answered " + got + ", due is " + want);
        }
    }

    private static long bits(float x) {
        return Float.floatToRawIntBits(x);
    }

    private static long bits(double x) {
        return Double.doubleToRawLongBits(x);
    }

    /** Station 0 with three rows of n items. */
    private static TideStation withRows(int n) {
        TideStation t = new TideStation();
        t.row(0, READINGS, n);
        t.row(0, PERIODS, n);
        t.row(0, WEIGHTS, n);
        return t;
    }

    /** What a NUMBER is after it was put into one row and moved to another. */
    private static long moved(int from, int v, int p, int to) {
        TideStation t = withRows(2);
        due("put " + v + " " + p + " into " + from, t.put(0, from, 0, v, p), 1);
        due("move from " + from + " to " + to, t.move(0, from, 0, to, 1), 1);
        return t.get(0, to, 1);
    }

    private static long put(int which, int v, int p) {
        TideStation t = withRows(1);
        due("put " + v + " " + p + " into " + which, t.put(0, which, 0, v, p), 1);
        return t.get(0, which, 0);
    }

    private static void isDouble(int v, int p, double want) {
        due(v + " " + p + " as a DOUBLE", put(PERIODS, v, p), bits(want));
        due(v + " " + p + " as a DOUBLE, moved", moved(PERIODS, v, p, PERIODS), bits(want));
    }

    /** A NUMBER as a FLOAT, and its DOUBLE as a FLOAT, and both below 0. */
    private static void isFloat(int v, int p, float want) {
        due(v + " " + p + " as a FLOAT", put(READINGS, v, p), bits(want));
        due(-v + " " + p + " as a FLOAT", put(READINGS, -v, p), bits(-want));
        due(v + " " + p + ", a DOUBLE, as a FLOAT", moved(PERIODS, v, p, READINGS), bits(want));
        due(-v + " " + p + ", a DOUBLE, as a FLOAT", moved(PERIODS, -v, p, READINGS), bits(-want));
    }

    /** A NUMBER as a LONG, and its DOUBLE as a LONG. */
    private static void isLong(int v, int p, long want) {
        due(v + " " + p + " as a LONG", put(WEIGHTS, v, p), want);
        due(v + " " + p + ", a DOUBLE, as a LONG", moved(PERIODS, v, p, WEIGHTS), want);
    }

    /** "A NUMBER is told by v and p (p -160 .. 160): v times 2 to the p, just that as a double." */
    private static void numberIsJustThatAsADouble() {
        isDouble(0, -160, 0.0);
        isDouble(0, 160, 0.0);
        isDouble(1, -160, 0x1p-160);
        isDouble(-1, -160, -0x1p-160);
        isDouble(1, 160, 0x1p160);
        isDouble(-1, 160, -0x1p160);
        isDouble(MOST, -160, 0x7fffffffp-160);
        isDouble(LEAST, -160, -0x1p-129);
        isDouble(MOST, 160, 0x7fffffffp160);
        isDouble(LEAST, 160, -0x1p191);
        isDouble(MOST, 0, 2147483647.0);
        isDouble(LEAST, 0, -2147483648.0);
        isDouble(3, -1, 1.5);
        isDouble(-3, 1, -6.0);
        for (int p = -160; p <= 160; p++) {
            isDouble(-5, p, -5 * Math.pow(2, p));
        }
    }

    /** "As a FLOAT: the nearest one, of two the even one" */
    private static void floatIsTheNearest() {
        isFloat(16777215, 0, 16777215f);
        isFloat(16777216, 0, 16777216f);
        isFloat(16777217, 0, 16777216f);
        isFloat(16777218, 0, 16777218f);
        isFloat(16777219, 0, 16777220f);
        // 8 apart from here on: below, at and above the middle, of an even one and of an odd one
        isFloat(67108864 + 3, 0, 67108864f);
        isFloat(67108864 + 4, 0, 67108864f);
        isFloat(67108864 + 5, 0, 67108872f);
        isFloat(67108872 + 3, 0, 67108872f);
        isFloat(67108872 + 4, 0, 67108880f);
        isFloat(67108872 + 5, 0, 67108880f);
        isFloat(67108864 + 3, 90, 0x1p116f);
        isFloat(67108864 + 5, 90, 0x1.000002p116f);
        isFloat(67108864 + 4, -100, 0x1p-74f);
        isFloat(67108872 + 4, -100, 0x1.000004p-74f);
        // the last place is passed on to the next power of 2
        isFloat(MOST, 0, 0x1p31f);
        isFloat(2147483647 - 63, 0, 0x1p31f);
        isFloat(2147483647 - 64, 0, 2147483520f);
        due("the least v as a FLOAT", put(READINGS, LEAST, 0), bits(-0x1p31f));
    }

    /** The same sentence, where floats have no leading bit, down to 0 and -0. */
    private static void smallestFloats() {
        isFloat(1, -126, 0x1p-126f);
        isFloat(8388607, -149, 0x7fffffp-149f);
        isFloat(33554429, -151, 0x7fffffp-149f);
        isFloat(16777215, -150, 0x1p-126f);
        isFloat(33554431, -151, 0x1p-126f);
        isFloat(1, -149, 0x1p-149f);
        isFloat(1023, -160, 0f);
        isFloat(1024, -160, 0f);
        isFloat(1025, -160, 0x1p-149f);
        isFloat(3071, -160, 0x1p-149f);
        isFloat(3072, -160, 0x2p-149f);
        isFloat(3073, -160, 0x2p-149f);
        isFloat(1, -160, 0f);
        isFloat(MOST, -160, 0x1p-129f);
        due("0 as a FLOAT has no sign", put(READINGS, 0, -160), bits(0f));
        due("-1 -160 as a FLOAT has one", put(READINGS, -1, -160), bits(-0f));
    }

    /** "endless, beyond the greatest ones by half of a last place or more" */
    private static void floatIsEndlessFromHalfALastPlaceOn() {
        isFloat(16777215, 104, Float.MAX_VALUE);
        isFloat(67108861, 102, Float.MAX_VALUE);
        isFloat(2147483583, 97, Float.MAX_VALUE);
        isFloat(2147483584, 97, ENDLESS);
        isFloat(33554431, 103, ENDLESS);
        isFloat(67108863, 102, ENDLESS);
        isFloat(1, 127, 0x1p127f);
        isFloat(1, 128, ENDLESS);
        isFloat(MOST, 96, 0x1p127f);
        isFloat(MOST, 97, ENDLESS);
        isFloat(1, 160, ENDLESS);
        isFloat(MOST, 160, ENDLESS);
        due("-2 to the 128", put(READINGS, LEAST, 97), bits(MINUS_ENDLESS));
        due("-2 to the 127", put(READINGS, LEAST, 96), bits(-0x1p127f));
    }

    /** "As a LONG: cut toward 0" */
    private static void longIsCutTowardZero() {
        isLong(0, 160, 0);
        isLong(1, 0, 1);
        isLong(-1, 0, -1);
        isLong(1, -1, 0);
        isLong(-1, -1, 0);
        isLong(3, -1, 1);
        isLong(-3, -1, -1);
        isLong(MOST, -31, 0);
        isLong(-MOST, -31, 0);
        isLong(LEAST, -31, -1);
        isLong(MOST, -30, 1);
        isLong(-MOST, -30, -1);
        isLong(1, -160, 0);
        isLong(-1, -160, 0);
        isLong(MOST, -1, 1073741823);
        isLong(-MOST, -1, -1073741823);
    }

    /** "the nearest end beyond 2 to the 63" */
    private static void longIsTheNearestEnd() {
        isLong(MOST, 0, 2147483647L);
        isLong(LEAST, 0, -2147483648L);
        isLong(1, 31, 2147483648L);
        isLong(1, 62, 4611686018427387904L);
        isLong(MOST, 32, 9223372032559808512L);
        isLong(-MOST, 32, -9223372032559808512L);
        isLong(1, 63, Long.MAX_VALUE);
        isLong(-1, 63, Long.MIN_VALUE);
        isLong(LEAST, 32, Long.MIN_VALUE);
        isLong(MOST, 33, Long.MAX_VALUE);
        isLong(LEAST, 33, Long.MIN_VALUE);
        isLong(1, 64, Long.MAX_VALUE);
        isLong(-1, 64, Long.MIN_VALUE);
        isLong(1073741825, 34, Long.MAX_VALUE);
        isLong(-1073741825, 33, Long.MIN_VALUE);
        isLong(MOST, 160, Long.MAX_VALUE);
        isLong(LEAST, 160, Long.MIN_VALUE);
    }

    private static void longAsFloat(int v, int p, float want) {
        due(v + " " + p + ", a LONG, as a FLOAT", moved(WEIGHTS, v, p, READINGS), bits(want));
    }

    /** "A LONG as a FLOAT, a DOUBLE: the nearest one, of two the even one" */
    private static void longAsFloatIsTheNearest() {
        longAsFloat(0, 0, 0f);
        longAsFloat(-1, -1, 0f);
        longAsFloat(-1, 0, -1f);
        for (int sign = -1; sign <= 1; sign += 2) {
            longAsFloat(sign * 16777215, 0, sign * 16777215f);
            longAsFloat(sign * 16777217, 0, sign * 16777216f);
            longAsFloat(sign * 16777219, 0, sign * 16777220f);
            longAsFloat(sign * (67108864 + 3), 20, sign * 0x1p46f);
            longAsFloat(sign * (67108864 + 4), 20, sign * 0x1p46f);
            longAsFloat(sign * (67108864 + 5), 20, sign * 0x1.000002p46f);
            longAsFloat(sign * (67108872 + 4), 20, sign * 0x1.000004p46f);
            longAsFloat(sign * 16777215, 39, sign * 0xffffffp39f);
            longAsFloat(sign * MOST, 32, sign * 0x1p63f);
            longAsFloat(sign, 63, sign * 0x1p63f);
            longAsFloat(sign, 160, sign * 0x1p63f);
        }
    }

    private static void longAsDouble(int v, int p, double want) {
        due(v + " " + p + ", a LONG, as a DOUBLE", moved(WEIGHTS, v, p, PERIODS), bits(want));
    }

    /** The same sentence; the greatest LONG alone has more bits than a DOUBLE here. */
    private static void longAsDoubleIsTheNearest() {
        longAsDouble(0, 0, 0.0);
        longAsDouble(-1, -1, 0.0);
        longAsDouble(MOST, 0, 2147483647.0);
        longAsDouble(LEAST, 0, -2147483648.0);
        longAsDouble(MOST, 32, 0x7fffffffp32);
        longAsDouble(-MOST, 32, -0x7fffffffp32);
        longAsDouble(1, 63, 0x1p63);
        longAsDouble(1, 160, 0x1p63);
        longAsDouble(-1, 63, -0x1p63);
        longAsDouble(-1, 160, -0x1p63);
    }

    private static void floatAsDouble(int v, int p, double want) {
        due(v + " " + p + ", a FLOAT, as a DOUBLE", moved(READINGS, v, p, PERIODS), bits(want));
        due(v + " " + p + ", a FLOAT, as itself", moved(READINGS, v, p, READINGS), bits((float) want));
    }

    /** "a FLOAT as a DOUBLE: the same" */
    private static void floatAsDoubleIsTheSame() {
        floatAsDouble(0, 0, 0.0);
        floatAsDouble(-1, -160, -0.0);
        floatAsDouble(1, -149, 0x1p-149);
        floatAsDouble(-8388607, -149, -0x7fffffp-149);
        floatAsDouble(1, -126, 0x1p-126);
        floatAsDouble(16777217, 0, 16777216.0);
        floatAsDouble(16777215, 104, 0xffffffp104);
        floatAsDouble(-16777215, 104, -0xffffffp104);
        floatAsDouble(1, 128, Double.POSITIVE_INFINITY);
        floatAsDouble(-1, 128, Double.NEGATIVE_INFINITY);
    }

    /** "as that has it": where both have LONGS, nothing is turned. */
    private static void longAsLongIsTheSame() {
        int[][] numbers = {{0, 0}, {1, 0}, {-1, 0}, {16777217, 0}, {-16777217, 0}, {MOST, 32}, {1, 63}, {-1, 63}};
        long[] wants = {0, 1, -1, 16777217, -16777217, 9223372032559808512L, Long.MAX_VALUE, Long.MIN_VALUE};
        for (int k = 0; k < numbers.length; k++) {
            int[] number = numbers[k];
            due(number[0] + " " + number[1] + ", a LONG, as itself",
                moved(WEIGHTS, number[0], number[1], WEIGHTS), wants[k]);
        }
    }

    private static void whole(int v, int p, long want) {
        TideStation t = withRows(1);
        t.put(0, READINGS, 0, v, p);
        due("whole of " + v + " " + p, t.whole(0, 0), want);
        due("whole of " + v + " " + p + ", why", t.why(), 0);
        due(v + " " + p + ", a FLOAT, as a LONG", moved(READINGS, v, p, WEIGHTS), want);
    }

    /** "a FLOAT or a DOUBLE as a LONG or an int as told of NUMBERS" */
    private static void floatAsLong() {
        whole(0, 0, 0);
        whole(-1, -160, 0);
        whole(1, -149, 0);
        whole(16777215, -24, 0);
        whole(-16777215, -24, 0);
        whole(1, 0, 1);
        whole(16777215, -23, 1);
        whole(-16777215, -23, -1);
        whole(16777217, 0, 16777216);
        whole(1, 31, 2147483648L);
        whole(-3, 31, -6442450944L);
        whole(16777215, 39, 9223371487098961920L);
        whole(-16777215, 39, -9223371487098961920L);
        whole(1, 63, Long.MAX_VALUE);
        whole(-1, 63, Long.MIN_VALUE);
        whole(8388609, 40, Long.MAX_VALUE);
        whole(-8388609, 40, Long.MIN_VALUE);
        whole(16777215, 104, Long.MAX_VALUE);
        whole(-16777215, 104, Long.MIN_VALUE);
        whole(1, 128, Long.MAX_VALUE);
        whole(-1, 128, Long.MIN_VALUE);
    }

    /** What a METER and a FLOAT METER of a step read of a NUMBER as a READING. */
    private static int read(int kind, int s, int v, int p) {
        TideStation t = withRows(1);
        t.rack(0, false);
        t.hang(0, 0, kind, s);
        t.put(0, READINGS, 0, v, p);
        int got = t.read(0, 0, 0);
        due("read of " + v + " " + p + ", why", t.why(), 0);
        due("read changes nothing", t.get(0, READINGS, 0), put(READINGS, v, p));
        return got;
    }

    private static void isInt(int v, int p, int want) {
        due(v + " " + p + " as an int", read(1, 0, v, p), want);
    }

    /** "(an int: the nearest end beyond 2 to the 31)" */
    private static void intIsTheNearestEnd() {
        isInt(0, 0, 0);
        isInt(-1, -160, 0);
        isInt(16777215, -24, 0);
        isInt(-16777215, -24, 0);
        isInt(16777215, -23, 1);
        isInt(-16777215, -23, -1);
        isInt(16777215, 7, 2147483520);
        isInt(-16777215, 7, -2147483520);
        isInt(1, 31, MOST);
        isInt(-1, 31, LEAST);
        isInt(8388609, 8, MOST);
        isInt(-8388609, 8, LEAST);
        isInt(1, 32, MOST);
        isInt(-1, 32, LEAST);
        isInt(1, 63, MOST);
        isInt(-1, 64, LEAST);
        isInt(5, 100, MOST);
        isInt(1, 128, MOST);
        isInt(-1, 128, LEAST);
    }

    /** "bits of a FLOAT (32 of them, the highest one spread), of a DOUBLE, a LONG itself" */
    private static void bitsOfAFloatAreSpread() {
        due("bits of 0", put(READINGS, 0, 0), 0L);
        due("bits of the greatest", put(READINGS, 16777215, 104), 0x7f7fffffL);
        due("bits of endless", put(READINGS, 1, 128), 0x7f800000L);
        due("bits of -0", put(READINGS, -1, -160), 0xffffffff80000000L);
        due("bits of the least above 0", put(READINGS, 1, -149), 1L);
        due("bits of the greatest below 0", put(READINGS, -1, -149), 0xffffffff80000001L);
        due("bits of -1", put(READINGS, -1, 0), 0xffffffffbf800000L);
        due("bits of the least", put(READINGS, -16777215, 104), 0xffffffffff7fffffL);
        due("bits of -endless", put(READINGS, -1, 128), 0xffffffffff800000L);
        due("bits of endless, a DOUBLE", moved(READINGS, 1, 128, PERIODS), 0x7ff0000000000000L);
        due("bits of -endless, a DOUBLE", moved(READINGS, -1, 128, PERIODS), 0xfff0000000000000L);
        due("bits of -0, a DOUBLE", moved(READINGS, -1, -160, PERIODS), 0x8000000000000000L);
        due("bits of -1, a DOUBLE", put(PERIODS, -1, 0), 0xbff0000000000000L);
        due("bits of 2 to the -160, a DOUBLE", put(PERIODS, 1, -160), 0x35f0000000000000L);
        due("the least LONG", put(WEIGHTS, -1, 63), 0x8000000000000000L);
    }

    private static TideStation withReadings(int v, int p, int w, int q) {
        TideStation t = withRows(2);
        t.put(0, READINGS, 0, v, p);
        t.put(0, READINGS, 1, w, q);
        return t;
    }

    /** THE REST of one READING by another; neither is changed by it. */
    private static void rest(int v, int p, int w, int q, float want) {
        String what = "rest of " + v + " " + p + " by " + w + " " + q;
        TideStation t = withReadings(v, p, w, q);
        due(what, t.rest(0, 0, 1), bits(want));
        due(what + ", why", t.why(), 0);
        due(what + " keeps x", t.get(0, READINGS, 0), put(READINGS, v, p));
        due(what + " keeps y", t.get(0, READINGS, 1), put(READINGS, w, q));
    }

    /** "of the sign of x" */
    private static void restHasTheSignOfX() {
        rest(7, 0, 4, 0, 3f);
        rest(-7, 0, 4, 0, -3f);
        rest(7, 0, -4, 0, 3f);
        rest(-7, 0, -4, 0, -3f);
        rest(11, -1, 1, 0, 0.5f);
        rest(11, -1, -1, 0, 0.5f);
        rest(-11, -1, -1, 0, -0.5f);
        rest(15, -3, 1, -1, 0.375f);
        rest(-15, -3, 1, -1, -0.375f);
    }

    /** "(0, too)" */
    private static void restOfZeroHasTheSignOfX() {
        rest(8, 0, 4, 0, 0f);
        rest(-8, 0, 4, 0, -0f);
        rest(8, 0, -4, 0, 0f);
        rest(-8, 0, -4, 0, -0f);
        rest(4, 0, 4, 0, 0f);
        rest(-4, 0, 4, 0, -0f);
        rest(0, 0, 4, 0, 0f);
        rest(0, 0, -4, 0, 0f);
        rest(-1, -160, 4, 0, -0f);
        rest(-1, -160, -4, 0, -0f);
        rest(1, 127, 1, -149, 0f);
        rest(-1, 127, 1, -149, -0f);
    }

    /** "x less y taken as often as it goes wholly into x": not at all, just once, and once with a last place left. */
    private static void restOfLessIsItself() {
        rest(16777215, -24, 1, 0, 0xffffffp-24f);
        rest(-16777215, -24, 1, 0, -0xffffffp-24f);
        rest(16777215, -24, -1, 0, 0xffffffp-24f);
        rest(8388609, -23, 1, 0, 0x1p-23f);
        rest(-8388609, -23, 1, 0, -0x1p-23f);
        rest(1, 0, 16777215, -24, 0x1p-24f);
        rest(16777215, 0, 8388608, 0, 8388607f);
        rest(3, 0, 2, 0, 1f);
        rest(1, -149, 2, -149, 0x1p-149f);
        rest(2, -149, 2, -149, 0f);
        rest(3, -149, 2, -149, 0x1p-149f);
        rest(8388609, -149, 1, -126, 0x1p-149f);
        rest(8388607, -149, 1, -126, 0x7fffffp-149f);
        rest(16777215, 104, 16777215, 104, 0f);
        rest(16777214, 104, 16777215, 104, 0xfffffep104f);
        rest(16777215, 104, 16777214, 104, 0x1p104f);
    }

    /** "x, if y is endless" */
    private static void restByEndlessIsX() {
        for (int y = -1; y <= 1; y += 2) {
            rest(5, 0, y, 128, 5f);
            rest(-5, 0, y, 128, -5f);
            rest(0, 0, y, 128, 0f);
            rest(-1, -160, y, 128, -0f);
            rest(16777215, 104, y, 160, Float.MAX_VALUE);
            rest(-16777215, 104, y, 160, -Float.MAX_VALUE);
            rest(1, -149, y, 128, Float.MIN_VALUE);
        }
    }

    /** "as often as it goes wholly into x": up to some 2 to the 277 times. */
    private static void restOfTheFarthestApart() {
        rest(1, 127, 3, -149, 0x1p-149f);
        rest(-1, 127, 3, -149, -0x1p-149f);
        rest(16777215, 104, 11, -149, 10 * 0x1p-149f);
        rest(16777215, 104, 8388607, -149, 0x1p-149f);
        rest(16777215, 104, 16777213, -149, 11157675 * 0x1p-149f);
        rest(1, -149, 16777215, 104, 0x1p-149f);
        rest(-1, -149, 16777215, 104, -0x1p-149f);
    }

    private static void restIsNone(int v, int p, int w, int q) {
        String what = "rest of " + v + " " + p + " by " + w + " " + q;
        TideStation t = withReadings(v, p, w, q);
        due(what, t.rest(0, 0, 1), 0);
        due(what + ", why", t.why(), NONE);
        due(what + ", step", t.step(0, 0, 1), NONE);
        due(what + ", why of step", t.why(), NONE);
        due(what + ", refused", t.refused(5), 2);
        due(what + " keeps x", t.get(0, READINGS, 0), put(READINGS, v, p));
        due(what + " keeps y", t.get(0, READINGS, 1), put(READINGS, w, q));
    }

    /** "There is NONE, if y is 0 or -0, or x is endless." */
    private static void restIsNoneByZeroOrOfEndless() {
        int[][] xs = {{5, 0}, {-5, 0}, {0, 0}, {-1, -160}, {1, 128}, {-1, 128}};
        for (int[] x : xs) {
            restIsNone(x[0], x[1], 0, 0);
            restIsNone(x[0], x[1], -1, -160);
        }
        int[][] ys = {{1, 0}, {-1, 0}, {1, 128}, {-1, 128}, {1, -149}};
        for (int[] y : ys) {
            restIsNone(1, 128, y[0], y[1]);
            restIsNone(-1, 128, y[0], y[1]);
        }
        // the last ones that have one: just above 0, and just below endless
        rest(5, 0, 1, -149, 0f);
        rest(5, 0, -1, -149, 0f);
        rest(2147483583, 97, 1, 0, 0f);
    }

    private static void step(int v, int p, int w, int q, float want) {
        String what = "step of " + v + " " + p + " by " + w + " " + q;
        TideStation t = withReadings(v, p, w, q);
        due(what, t.step(0, 0, 1), 1);
        due(what + ", why", t.why(), 0);
        due(what + ", reading", t.get(0, READINGS, 0), bits(want));
        due(what + " keeps y", t.get(0, READINGS, 1), put(READINGS, w, q));
    }

    /** "READING i less THE REST of it by j, as a FLOAT": what lies between two floats is rounded. */
    private static void stepRoundsAsAFloat() {
        for (int sign = -1; sign <= 1; sign += 2) {
            step(sign * 7, 0, 4, 0, sign * 4f);
            step(sign * 8, 0, -4, 0, sign * 8f);
            // 4 apart: just above and below, and in the middle of an even one and an odd one
            step(sign * 33554440, 0, 3, 0, sign * 33554440f);
            step(sign * 33554440, 0, 7, 0, sign * 33554436f);
            step(sign * 33554444, 0, 3, 0, sign * 33554440f);
            step(sign * 33554456, 0, 3, 0, sign * 33554456f);
            step(sign * 16777215, 104, 3, -149, sign * Float.MAX_VALUE);
            step(sign * 3, -149, 2, -149, sign * 0x2p-149f);
        }
    }

    /** The same sentence: a difference of two that are the same is 0, and not -0. */
    private static void stepToZero() {
        step(3, 0, 4, 0, 0f);
        step(-3, 0, 4, 0, 0f);
        step(0, 0, 4, 0, 0f);
        step(-1, -160, 4, 0, 0f);
        step(5, 0, 1, 128, 0f);
        step(-5, 0, -1, 128, 0f);
        step(-1, -160, 1, 128, 0f);
        step(-16777215, 104, 1, 128, 0f);
        TideStation t = withReadings(5, 0, -7, 0);
        due("step by itself", t.step(0, 1, 1), 1);
        due("step by itself keeps it", t.get(0, READINGS, 1), bits(-7f));
    }

    private static void phase(int v, int p, int w, int q, double want) {
        String what = "phase of " + v + " " + p + " by " + w + " " + q;
        TideStation t = withRows(2);
        t.put(0, PERIODS, 1, w, q);
        due(what, t.phase(0, 1, v, p), bits(want));
        due(what + ", why", t.why(), 0);
        due(what + " keeps the PERIOD", t.get(0, PERIODS, 1), put(PERIODS, w, q));
    }

    /** A PERIOD that no NUMBER is: endless, or -0, as a FLOAT was. */
    private static TideStation withPeriodOfAFloat(int v, int p) {
        TideStation t = withRows(2);
        t.put(0, READINGS, 0, v, p);
        t.move(0, READINGS, 0, PERIODS, 1);
        return t;
    }

    /** "THE PHASE: THE REST of a NUMBER, a time, by PERIOD k: bits of a DOUBLE." */
    private static void phaseByEveryKindOfPeriod() {
        phase(7, 0, 4, 0, 3.0);
        phase(-7, 0, 4, 0, -3.0);
        phase(7, 0, -4, 0, 3.0);
        phase(-7, 0, -4, 0, -3.0);
        phase(11, -1, -1, 0, 0.5);
        phase(-11, -1, 1, 0, -0.5);
        phase(8, 0, 4, 0, 0.0);
        phase(-8, 0, 4, 0, -0.0);
        phase(-8, 0, -4, 0, -0.0);
        phase(0, 160, -4, 0, 0.0);
        phase(MOST, 0, LEAST, 0, 2147483647.0);
        phase(LEAST, 0, MOST, 0, -1.0);
        // a rest of more bits than a FLOAT has
        phase(MOST, 0, 1, 30, 1073741823.0);
        phase(-MOST, 3, -3, 31, -4294967288.0);
        phase(LEAST, 160, LEAST, 160, -0.0);
        phase(MOST, 160, 3, -160, 0x1p-160);
        phase(MOST, 160, 2147483645, -160, 120932352 * 0x1p-160);
        phase(LEAST, 160, 2147483645, -160, -181398528 * 0x1p-160);
        phase(1, 160, MOST, -160, 0x1p-150);
        phase(1, -160, MOST, 160, 0x1p-160);
        phase(-1, -160, LEAST, 160, -0x1p-160);
        phase(1, -160, 1, -160, 0.0);
        phase(3, -160, 2, -160, 0x1p-160);
        for (int sign = -1; sign <= 1; sign += 2) {
            TideStation t = withPeriodOfAFloat(sign, 128);
            due("phase by endless", t.phase(0, 1, 9, 160), bits(0x9p160));
            due("phase by endless", t.phase(0, 1, -9, -160), bits(-0x9p-160));
            due("phase of 0 by endless", t.phase(0, 1, 0, 0), bits(0.0));
            due("phase by endless, why", t.why(), 0);
        }
    }

    /** "There is NONE, if y is 0 or -0" */
    private static void phaseIsNoneByZero() {
        for (int v = -1; v <= 0; v++) {
            TideStation t = withPeriodOfAFloat(v, -160);
            for (int time = -5; time <= 5; time += 5) {
                due("phase by 0", t.phase(0, 1, time, 0), 0);
                due("phase by 0, why", t.why(), NONE);
            }
            due("phase by 0, refused", t.refused(5), 3);
            due("phase by 0 keeps it", t.get(0, PERIODS, 1), bits(v < 0 ? -0.0 : 0.0));
        }
        phase(5, 0, 1, -160, 0.0);
        phase(-5, 0, 1, -160, -0.0);
    }

    private static void tide(int v, int p, int w, int q, int weight, double want) {
        TideStation t = withRows(1);
        t.put(0, PERIODS, 0, w, q);
        t.put(0, WEIGHTS, 0, weight, 0);
        String what = "tide at " + v + " " + p + " of " + w + " " + q + " by " + weight;
        due(what, t.tide(0, v, p), bits(want));
        due(what + ", why", t.why(), 0);
        due(what + " keeps the PERIOD", t.get(0, PERIODS, 0), put(PERIODS, w, q));
        due(what + " keeps the WEIGHT", t.get(0, WEIGHTS, 0), weight);
    }

    /** "at first 0.0" and "a PERIOD of 0, or that is endless, has none" */
    private static void tideOfNoWaves() {
        TideStation t = new TideStation();
        t.row(0, PERIODS, 0);
        due("tide of no PERIODS", t.tide(0, 5, 0), 0);
        due("tide of no PERIODS, why", t.why(), 0);
        int[][] waveless = {{0, 0}, {-1, -160}, {1, 128}, {-1, 128}};
        for (int[] period : waveless) {
            TideStation u = withPeriodOfAFloat(period[0], period[1]);
            u.put(0, PERIODS, 0, 10, 0);
            u.put(0, WEIGHTS, 0, 2, 0);
            u.put(0, WEIGHTS, 1, 1000, 0);
            due("tide beside " + period[0] + " " + period[1], u.tide(0, 3, 0), bits(6.0));
            u.put(0, PERIODS, 0, 0, 0);
            due("tide of " + period[0] + " " + period[1] + " alone", u.tide(0, 3, 0), bits(0.0));
            due("tide of no waves, why", u.why(), 0);
        }
        tide(5, 0, 1, -160, 9, 0.0);
        tide(5, 0, 1, 160, 9, 45.0);
    }

    /** "the lesser of r and w - r (r, if they are the same)" */
    private static void tideAtTheEdgesOfAPeriod() {
        tide(0, 0, 10, 0, 3, 0.0);
        tide(1, 0, 10, 0, 3, 3.0);
        tide(4, 0, 10, 0, 3, 12.0);
        tide(5, 0, 10, 0, 3, 15.0);
        tide(6, 0, 10, 0, 3, 12.0);
        tide(9, 0, 10, 0, 3, 3.0);
        tide(10, 0, 10, 0, 3, 0.0);
        tide(11, 0, 10, 0, 3, 3.0);
        tide(5, 0, 10, 0, -3, -15.0);
        tide(0, 0, 10, 0, -3, 0.0);
        tide(10, 0, 10, 0, -3, 0.0);
        tide(5, 0, 10, 0, 0, 0.0);
        tide(1, -160, 1, -159, 1, 0x1p-160);
        tide(MOST, 0, LEAST, 0, 1, 1.0);
        tide(1, 30, LEAST, 0, 1, 0x1p30);
    }

    /** "r THE REST of the time by w, and w added if that is below 0": -0 is not below 0. */
    private static void tideBelowZero() {
        tide(-1, 0, 10, 0, 3, 3.0);
        tide(-4, 0, 10, 0, 3, 12.0);
        tide(-5, 0, 10, 0, 3, 15.0);
        tide(-6, 0, 10, 0, 3, 12.0);
        tide(-9, 0, 10, 0, 3, 3.0);
        tide(-10, 0, 10, 0, 3, 0.0);
        tide(-10, 0, 10, 0, -3, 0.0);
        tide(-11, 0, 10, 0, 3, 3.0);
        // w less a last place is still told apart from w, and half of one is not
        tide(-1, -50, 1, 0, 1, 0x1p-50);
        tide(-1, -53, 1, 0, 1, 0x1p-53);
        tide(-1, -54, 1, 0, 1, 0.0);
        tide(-1, -160, 1, 0, 1, 0.0);
        tide(1, -160, 1, 0, 1, 0x1p-160);
    }

    /** "with w the PERIOD without sign" */
    private static void tideOfAPeriodBelowZero() {
        tide(3, 0, -10, 0, 2, 6.0);
        tide(7, 0, -10, 0, 2, 6.0);
        tide(-3, 0, -10, 0, 2, 6.0);
        tide(-7, 0, -10, 0, 2, 6.0);
        tide(-10, 0, -10, 0, 2, 0.0);
        tide(1, 159, LEAST, 160, 2, 0x1p160);
    }

    /** "the sum, from PERIOD 0 on" */
    private static void tideFromPeriodZeroOn() {
        TideStation t = withRows(3);
        for (int k = 0; k < 3; k++) {
            t.put(0, PERIODS, k, 2, 0);
        }
        // 1 beside 2 to the 53 is lost or kept as the order has it
        t.put(0, WEIGHTS, 0, 1, 53);
        t.put(0, WEIGHTS, 1, 1, 0);
        t.put(0, WEIGHTS, 2, -1, 53);
        due("tide, the small one second", t.tide(0, 1, 0), bits(0.0));
        t.put(0, WEIGHTS, 1, -1, 53);
        t.put(0, WEIGHTS, 2, 1, 0);
        due("tide, the small one last", t.tide(0, 1, 0), bits(1.0));
        t.put(0, WEIGHTS, 0, 1, 0);
        t.put(0, WEIGHTS, 1, 1, 53);
        t.put(0, WEIGHTS, 2, -1, 53);
        due("tide, the small one first", t.tide(0, 1, 0), bits(0.0));
        // the last place of a DOUBLE, and the middle between two of them: the even one
        t.put(0, WEIGHTS, 0, 1, 52);
        t.put(0, WEIGHTS, 1, 1, 0);
        t.put(0, WEIGHTS, 2, 0, 0);
        due("tide of 2 to the 52 and 1", t.tide(0, 1, 0), 0x4330000000000001L);
        t.put(0, WEIGHTS, 0, 1, 53);
        t.put(0, WEIGHTS, 1, 2, 0);
        t.put(0, WEIGHTS, 2, 1, 0);
        due("tide of 2 to the 53, 2 and 1", t.tide(0, 1, 0), bits(0x1p53 + 4));
        TideStation full = withRows(24);
        for (int k = 0; k < 24; k++) {
            full.put(0, PERIODS, k, 100, 0);
            full.put(0, WEIGHTS, k, 1, k);
        }
        due("tide of 24 waves", full.tide(0, 1, 0), bits(16777215.0));
    }

    /** "times WEIGHT k as a DOUBLE" */
    private static void tideOfAWeightAsADouble() {
        TideStation t = withRows(1);
        t.put(0, PERIODS, 0, 2, 0);
        t.put(0, WEIGHTS, 0, 1, 63);
        due("tide by the greatest LONG", t.tide(0, 1, 0), bits(0x1p63));
        t.put(0, WEIGHTS, 0, -1, 63);
        due("tide by the least LONG", t.tide(0, 1, 0), bits(-0x1p63));
        t.put(0, WEIGHTS, 0, MOST, 32);
        due("tide by a LONG", t.tide(0, 1, 0), bits(0x7fffffffp32));
        // the product of two of 31 bits is rounded: 2 to the 62 less 2 to the 32, and 1 that is lost
        t.put(0, PERIODS, 0, 1, 33);
        t.put(0, WEIGHTS, 0, MOST, 0);
        due("tide of a long product", t.tide(0, MOST, 0), bits(4611686014132420608.0));
        // a FLOAT would have lost the last place
        t.put(0, PERIODS, 0, 2, 0);
        t.put(0, WEIGHTS, 0, 16777217, 0);
        due("tide by 16777217", t.tide(0, 1, 0), bits(16777217.0));
    }

    /** "times WEIGHT k as a DOUBLE", and only then the sum: each product is rounded for itself. */
    private static void tideOfRoundedProducts() {
        int odd = (1 << 27) + 1;
        TideStation t = withRows(2);
        // the square of 2 to the 27 and 1 more is 2 to the 54, 2 to the 28 and 1 more: the 1 is lost
        t.put(0, PERIODS, 0, 2, 0);
        t.put(0, WEIGHTS, 0, -((1 << 26) + 1), 28);
        t.put(0, PERIODS, 1, 1, 40);
        t.put(0, WEIGHTS, 1, odd, 0);
        due("tide of a product that was rounded", t.tide(0, odd, 0), bits(0.0));
        due("tide of a product that was rounded, why", t.why(), 0);
    }

    private static void tideRefused(String what, TideStation t, int reason) {
        due(what, t.tide(0, 1, 0), 0);
        due(what + ", why", t.why(), reason);
    }

    /** "NULL: PERIODS, or, where a wave needs it, WEIGHTS; INDEX: there are fewer WEIGHTS." */
    private static void tideNeedsWeightsForWavesAlone() {
        TideStation t = new TideStation();
        t.row(0, WEIGHTS, 3);
        tideRefused("tide without PERIODS", t, NULL);
        t.lose(0, WEIGHTS);
        t.row(0, PERIODS, 3);
        due("tide without waves and WEIGHTS", t.tide(0, 1, 0), 0);
        due("tide without waves and WEIGHTS, why", t.why(), 0);
        t.put(0, PERIODS, 2, 10, 0);
        tideRefused("tide with a wave and no WEIGHTS", t, NULL);
        for (int n = 0; n <= 2; n++) {
            t.row(0, WEIGHTS, n);
            tideRefused("tide of PERIOD 2 with WEIGHTS " + n, t, INDEX);
        }
        t.row(0, WEIGHTS, 3);
        t.put(0, WEIGHTS, 2, 7, 0);
        due("tide of PERIOD 2 with WEIGHTS 3", t.tide(0, 1, 0), bits(7.0));
        t.put(0, PERIODS, 0, 10, 0);
        t.put(0, PERIODS, 2, 0, 0);
        t.row(0, WEIGHTS, 1);
        t.put(0, WEIGHTS, 0, 5, 0);
        due("tide of PERIOD 0 with WEIGHTS 1", t.tide(0, 1, 0), bits(5.0));
        due("tide of PERIOD 0 with WEIGHTS 1, why", t.why(), 0);
        t.put(0, PERIODS, 1, 10, 0);
        tideRefused("tide of PERIODS 0 and 1 with WEIGHTS 1", t, INDEX);
        t.row(0, WEIGHTS, 24);
        t.put(0, WEIGHTS, 1, 3, 0);
        t.put(0, WEIGHTS, 2, 1000, 0);
        t.put(0, WEIGHTS, 3, 1000, 0);
        due("tide with more WEIGHTS", t.tide(0, 1, 0), bits(3.0));
        due("tide, NULL", t.refused(0), 2);
        due("tide, INDEX", t.refused(1), 4);
    }

    /** "a PERIOD of 0, or that is endless, has none" and "where a wave needs it": then no WEIGHT is needed. */
    private static void tideNeedsNoWeightWhereNoWaveIs() {
        int[][] waveless = {{0, 0}, {-1, -160}, {1, 128}, {-1, 128}};
        for (int[] period : waveless) {
            String what = "tide of " + period[0] + " " + period[1];
            TideStation t = withPeriodOfAFloat(period[0], period[1]);
            t.lose(0, WEIGHTS);
            due(what + " without WEIGHTS", t.tide(0, 3, 0), bits(0.0));
            due(what + " without WEIGHTS, why", t.why(), 0);
            t.row(0, WEIGHTS, 0);
            due(what + " with no WEIGHT", t.tide(0, 3, 0), bits(0.0));
            due(what + " with no WEIGHT, why", t.why(), 0);
            t.row(0, WEIGHTS, 1);
            t.put(0, WEIGHTS, 0, 2, 0);
            t.put(0, PERIODS, 0, 10, 0);
            due(what + " beyond the WEIGHTS", t.tide(0, 3, 0), bits(6.0));
            due(what + " beyond the WEIGHTS, why", t.why(), 0);
            due(what + ", NULL", t.refused(0), 0);
            due(what + ", INDEX", t.refused(1), 0);
        }
    }

    /** The greatest PERIODS and WEIGHTS that a row can have, 24 of them: the sum is far from endless. */
    private static void tideOfTheGreatest() {
        TideStation t = withRows(24);
        for (int k = 0; k < 24; k++) {
            t.put(0, PERIODS, k, LEAST, 160);
            t.put(0, WEIGHTS, k, -1, 160);
        }
        due("the greatest tide", t.tide(0, 1 << 30, 160), bits(-24 * 0x1p253));
        due("the greatest tide, below 0", t.tide(0, -(1 << 30), 160), bits(-24 * 0x1p253));
        due("the least tide", t.tide(0, 1, -160), bits(-24 * 0x1p-97));
    }

    private static void floatMeter(int s, int v, int p, int want) {
        due(v + " " + p + " by steps of " + s, read(2, s, v, p), want);
    }

    /** "with a STEP s (an int 1 .. 1000, in 64ths): x less THE REST of x by s / 64" */
    private static void floatMeterAtTheEdgesOfAStep() {
        for (int sign = -1; sign <= 1; sign += 2) {
            // 1000 / 64 is 15.625
            floatMeter(1000, sign * 31, -1, 0);
            floatMeter(1000, sign * 124, -3, 0);
            floatMeter(1000, sign * 125, -3, sign * 15);
            floatMeter(1000, sign * 31, 0, sign * 15);
            floatMeter(1000, sign * 249, -3, sign * 15);
            floatMeter(1000, sign * 250, -3, sign * 31);
            floatMeter(1000, sign * 125, 0, sign * 125);
            floatMeter(1000, sign * 124, 0, sign * 109);
            // the least step is below a whole: what is read is cut as an int alone
            floatMeter(1, sign * 63, -6, 0);
            floatMeter(1, sign, 0, sign);
            floatMeter(1, sign * 127, -6, sign);
            floatMeter(1, sign * 255, -7, sign);
            floatMeter(63, sign * 63, -6, 0);
            floatMeter(63, sign * 126, -6, sign);
            floatMeter(63, sign, 0, 0);
            floatMeter(63, sign * 2, 0, sign);
            floatMeter(64, sign * 15, -1, sign * 7);
            floatMeter(65, sign, 0, 0);
            floatMeter(65, sign * 65, -6, sign);
            floatMeter(65, sign * 4, 0, sign * 3);
            floatMeter(128, sign * 7, 0, sign * 6);
            floatMeter(999, sign * 100, 0, sign * 93);
        }
        floatMeter(1, 0, 0, 0);
        floatMeter(1000, -1, -160, 0);
    }

    /** "(all as FLOATS), as an int": the difference is rounded before it is cut. */
    private static void floatMeterReadsAsFloats() {
        for (int sign = -1; sign <= 1; sign += 2) {
            // 60 / 64 goes into 16777215.9375, which is 16777216 as a FLOAT
            floatMeter(60, sign * 16777216, 0, sign * 16777216);
            floatMeter(999, sign * 16777224, 0, sign * 16777222);
            floatMeter(997, sign * 16777260, 0, sign * 16777252);
            // x itself was rounded, too
            floatMeter(64, sign * 16777217, 0, sign * 16777216);
            floatMeter(64, sign * 16777219, 0, sign * 16777220);
        }
    }

    /** "as an int; of an endless x: as an int, too" */
    private static void floatMeterAtTheEnds() {
        for (int s : new int[] {1, 64, 999, 1000}) {
            floatMeter(s, 1, 128, MOST);
            floatMeter(s, -1, 128, LEAST);
            floatMeter(s, 16777215, 104, MOST);
            floatMeter(s, -16777215, 104, LEAST);
            // 2 to the 31 less a rest of some 7 is 2 to the 31 again, as a FLOAT
            floatMeter(s, 1, 31, MOST);
            floatMeter(s, -1, 31, LEAST);
            floatMeter(s, 1, -149, 0);
            floatMeter(s, -1, -149, 0);
        }
        floatMeter(64, 16777215, 7, 2147483520);
        floatMeter(64, -16777215, 7, -2147483520);
        floatMeter(1000, 16777215, 7, 2147483520);
    }
}
