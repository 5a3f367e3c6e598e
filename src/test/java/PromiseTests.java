/** Each promise of the document: ordinary inputs, the edges it names, and wrong inputs. */
public final class PromiseTests {
    private static final int NONE = -1, BAD = -2, NULL = -3, INDEX = -4, SIZE = -5, CAST = -6, STORE = -7;
    private static final int READINGS = 0, PERIODS = 1, WEIGHTS = 2;
    private static final int[] NO_STATIONS = {-1, 6, 7, Integer.MAX_VALUE, Integer.MIN_VALUE};
    private static final int[] NO_ROWS = {-1, 3, Integer.MAX_VALUE, Integer.MIN_VALUE};
    private static final int[] NO_POWERS = {-161, 161, Integer.MAX_VALUE, Integer.MIN_VALUE};
    private static final int[] NO_ITEMS = {-1, 3, 24, Integer.MAX_VALUE, Integer.MIN_VALUE};
    private static final int[] NO_PLACES = {-1, 4, Integer.MAX_VALUE, Integer.MIN_VALUE};

    private static int wrong = 0;

    public static void main(String[] args) {
        promise1New();
        promise2Row();
        promise3Lose();
        promise4Share();
        promise5Size();
        promise6Put();
        promise7Get();
        promise8Move();
        promise8MoveRefused();
        promise9Rest();
        promise9RestRefused();
        promise10Step();
        promise11Whole();
        promise12Phase();
        promise13Tide();
        promise13TideSums();
        promise13TideRefused();
        promise14Rack();
        promise15Hang();
        promise16Read();
        promise16ReadRefused();
        promise17StepOf();
        promise18Refused();
        promise19Why();
        badComesFirst();
        System.out.println(wrong == 0 ? "all promises hold" : wrong + " answers are not as promised");
        if (wrong != 0) {
            System.exit(1);
        }
    }

    private static void due(String what, long got, long want) {
        if (got != want) {
            wrong++;
            System.out.println(what + ": answered " + got + ", due is " + want);
        }
    }

    /** An answer of 1 or of a reason, with what why() says then. */
    private static void dueAct(String what, TideStation t, long got, long want) {
        due(what, got, want);
        due(what + ", why", t.why(), want < 0 ? want : 0);
    }

    /** An answer of any number, that was given. */
    private static void dueNumber(String what, TideStation t, long got, long want) {
        due(what, got, want);
        due(what + ", why", t.why(), 0);
    }

    /** An answer of any number, that was refused. */
    private static void dueZero(String what, TideStation t, long got, int reason) {
        due(what, got, 0);
        due(what + ", why", t.why(), reason);
    }

    private static long bits(float x) {
        return Float.floatToRawIntBits(x);
    }

    private static long bits(double x) {
        return Double.doubleToRawLongBits(x);
    }

    /** Station 0 with three rows of n items. */
    private static TideStation withRows(int n) {
        TideStation t = new TideStation();
        t.row(0, READINGS, n);
        t.row(0, PERIODS, n);
        t.row(0, WEIGHTS, n);
        return t;
    }

    private static void promise1New() {
        TideStation t = new TideStation();
        due("1: why", t.why(), 0);
        for (int what = 0; what < 6; what++) {
            due("1: refused", t.refused(what), 0);
        }
        for (int s = 0; s < 6; s++) {
            for (int which = 0; which < 3; which++) {
                dueAct("1: size", t, t.size(s, which), NULL);
                dueAct("1: lose", t, t.lose(s, which), 0);
            }
            dueAct("1: stepOf", t, t.stepOf(s, 0), NULL);
        }
        TideStation other = new TideStation();
        other.row(0, READINGS, 1);
        dueAct("1: objects are apart", t, t.size(0, READINGS), NULL);
    }

    private static void promise2Row() {
        TideStation t = new TideStation();
        for (int s = 0; s < 6; s++) {
            for (int which = 0; which < 3; which++) {
                int n = s * 3 + which;
                dueAct("2: row", t, t.row(s, which, n), 1);
            }
        }
        for (int s = 0; s < 6; s++) {
            for (int which = 0; which < 3; which++) {
                due("2: size of each", t.size(s, which), s * 3 + which);
                for (int i = 0; i < s * 3 + which; i++) {
                    due("2: all 0", t.get(s, which, i), 0);
                }
            }
        }
        dueAct("2: 0 items", t, t.row(0, READINGS, 0), 1);
        dueAct("2: 24 items", t, t.row(0, READINGS, 24), 1);
        due("2: last of 24", t.put(0, READINGS, 23, 5, 0), 1);
        dueAct("2: 25 items", t, t.row(0, READINGS, 25), BAD);
        dueAct("2: many items", t, t.row(0, READINGS, Integer.MAX_VALUE), BAD);
        dueAct("2: -1 items", t, t.row(0, READINGS, -1), SIZE);
        dueAct("2: least n", t, t.row(0, READINGS, Integer.MIN_VALUE), SIZE);
        due("2: refused changes nothing", t.get(0, READINGS, 23), bits(5f));
        due("2: refused keeps size", t.size(0, READINGS), 24);
        dueAct("2: anew", t, t.row(0, READINGS, 24), 1);
        due("2: anew is 0", t.get(0, READINGS, 23), 0);
        for (int s : NO_STATIONS) {
            dueAct("2: no station", t, t.row(s, 0, 1), BAD);
            dueAct("2: no station, no size", t, t.row(s, 0, -1), BAD);
        }
        for (int which : NO_ROWS) {
            dueAct("2: no row", t, t.row(0, which, 1), BAD);
            dueAct("2: no row, no size", t, t.row(0, which, -1), BAD);
        }
        due("2: SIZE is counted", t.refused(2), 2);
    }

    private static void promise3Lose() {
        TideStation t = withRows(3);
        dueAct("3: lose", t, t.lose(0, PERIODS), 1);
        dueAct("3: is missing", t, t.size(0, PERIODS), NULL);
        dueAct("3: again", t, t.lose(0, PERIODS), 0);
        due("3: not refused", t.why(), 0);
        due("3: others stay", t.size(0, READINGS), 3);
        due("3: others stay", t.size(0, WEIGHTS), 3);
        t.row(1, READINGS, 0);
        dueAct("3: an empty one is there", t, t.lose(1, READINGS), 1);
        for (int s : NO_STATIONS) {
            dueAct("3: no station", t, t.lose(s, 0), BAD);
        }
        for (int which : NO_ROWS) {
            dueAct("3: no row", t, t.lose(0, which), BAD);
        }
        due("3: refused changes nothing", t.size(0, READINGS), 3);
    }

    private static void promise4Share() {
        TideStation t = withRows(3);
        t.put(0, READINGS, 1, 9, 0);
        t.row(1, READINGS, 2);
        dueAct("4: share", t, t.share(1, READINGS, 0), 1);
        due("4: its size", t.size(1, READINGS), 3);
        due("4: its items", t.get(1, READINGS, 1), bits(9f));
        t.put(1, READINGS, 2, 4, 0);
        due("4: one row for both", t.get(0, READINGS, 2), bits(4f));
        t.put(0, READINGS, 0, 8, 0);
        due("4: both ways", t.get(1, READINGS, 0), bits(8f));
        dueAct("4: missing, too", t, t.share(1, READINGS, 5), 1);
        dueAct("4: is missing", t, t.size(1, READINGS), NULL);
        due("4: the first stays", t.size(0, READINGS), 3);
        t.share(2, WEIGHTS, 0);
        t.share(3, WEIGHTS, 2);
        t.lose(0, WEIGHTS);
        t.row(2, WEIGHTS, 1);
        due("4: held after lose and row", t.size(3, WEIGHTS), 3);
        due("4: row parts", t.size(2, WEIGHTS), 1);
        dueAct("4: with itself", t, t.share(0, PERIODS, 0), 1);
        due("4: itself stays", t.size(0, PERIODS), 3);
        t.step(0, 0, 1);
        t.share(4, READINGS, 0);
        t.put(0, READINGS, 0, 7, 0);
        t.put(0, READINGS, 1, 2, 0);
        t.step(4, 0, 1);
        due("4: steps, too", t.get(0, READINGS, 0), bits(6f));
        for (int s : NO_STATIONS) {
            dueAct("4: no station", t, t.share(s, 0, 1), BAD);
            dueAct("4: no other", t, t.share(0, 0, s), BAD);
        }
        for (int which : NO_ROWS) {
            dueAct("4: no row", t, t.share(0, which, 1), BAD);
        }
        due("4: refused changes nothing", t.size(0, READINGS), 3);
    }

    private static void promise5Size() {
        TideStation t = new TideStation();
        for (int n = 0; n <= 24; n++) {
            t.row(5, n % 3, n);
            dueNumber("5: size", t, t.size(5, n % 3), n);
        }
        dueAct("5: missing", t, t.size(4, 0), NULL);
        for (int s : NO_STATIONS) {
            dueAct("5: no station", t, t.size(s, 0), BAD);
        }
        for (int which : NO_ROWS) {
            dueAct("5: no row", t, t.size(0, which), BAD);
        }
    }

    private static void putEach(int v, int p, float asFloat, double asDouble, long asLong) {
        TideStation t = withRows(2);
        String what = "6: put " + v + " " + p;
        dueAct(what, t, t.put(0, READINGS, 1, v, p), 1);
        dueAct(what, t, t.put(0, PERIODS, 1, v, p), 1);
        dueAct(what, t, t.put(0, WEIGHTS, 1, v, p), 1);
        due(what + " as a float", t.get(0, READINGS, 1), bits(asFloat));
        due(what + " as a double", t.get(0, PERIODS, 1), bits(asDouble));
        due(what + " as a long", t.get(0, WEIGHTS, 1), asLong);
        for (int which = 0; which < 3; which++) {
            due(what + " leaves the others", t.get(0, which, 0), 0);
        }
    }

    private static void promise6Put() {
        long most = Long.MAX_VALUE, least = Long.MIN_VALUE;
        putEach(0, 0, 0f, 0.0, 0);
        putEach(0, -160, 0f, 0.0, 0);
        putEach(1, 0, 1f, 1.0, 1);
        putEach(-7, -1, -3.5f, -3.5, -3);
        putEach(7, -1, 3.5f, 3.5, 3);
        putEach(-1, -1, -0.5f, -0.5, 0);
        putEach(Integer.MAX_VALUE, 0, 0x1p31f, 2147483647.0, 2147483647);
        putEach(Integer.MIN_VALUE, 0, -0x1p31f, -0x1p31, -2147483648L);
        putEach(16777217, 0, 16777216f, 16777217.0, 16777217);
        putEach(16777219, 0, 16777220f, 16777219.0, 16777219);
        putEach(-16777217, 0, -16777216f, -16777217.0, -16777217);
        putEach(33554434, 0, 33554432f, 33554434.0, 33554434);
        putEach(33554435, 0, 33554436f, 33554435.0, 33554435);
        putEach(1, 62, 0x1p62f, 0x1p62, 1L << 62);
        putEach(1, 63, 0x1p63f, 0x1p63, most);
        putEach(-1, 63, -0x1p63f, -0x1p63, least);
        putEach(-3, 63, -0x3p63f, -0x3p63, least);
        putEach(1, 160, Float.POSITIVE_INFINITY, 0x1p160, most);
        putEach(-1, 160, Float.NEGATIVE_INFINITY, -0x1p160, least);
        putEach(Integer.MIN_VALUE, 160, Float.NEGATIVE_INFINITY, -0x1p191, least);
        putEach(16777215, 104, Float.MAX_VALUE, 0xffffffp104, most);
        // half of a last place beyond the greatest float, and just below that
        putEach(33554431, 103, Float.POSITIVE_INFINITY, 0x1ffffffp103, most);
        putEach(-33554431, 103, Float.NEGATIVE_INFINITY, -0x1ffffffp103, least);
        putEach(67108861, 102, Float.MAX_VALUE, 0x3fffffdp102, most);
        putEach(2147483583, 97, Float.MAX_VALUE, 2147483583 * 0x1p97, most);
        putEach(2147483584, 97, Float.POSITIVE_INFINITY, 2147483584 * 0x1p97, most);
        putEach(1, -126, Float.MIN_NORMAL, 0x1p-126, 0);
        putEach(8388607, -149, 0x7fffffp-149f, 0x7fffffp-149, 0);
        putEach(16777215, -150, Float.MIN_NORMAL, 0xffffffp-150, 0);
        putEach(1, -149, Float.MIN_VALUE, 0x1p-149, 0);
        putEach(1, -150, 0f, 0x1p-150, 0);
        putEach(-1, -150, -0f, -0x1p-150, 0);
        putEach(3, -151, Float.MIN_VALUE, 0x3p-151, 0);
        putEach(3, -150, 2 * Float.MIN_VALUE, 0x3p-150, 0);
        putEach(1, -160, 0f, 0x1p-160, 0);
        putEach(-1, -160, -0f, -0x1p-160, 0);
        promise6PutRefused();
    }

    private static void promise6PutRefused() {
        TideStation t = withRows(3);
        for (int which = 0; which < 3; which++) {
            for (int i : NO_ITEMS) {
                dueAct("6: no item", t, t.put(0, which, i, 1, 0), INDEX);
            }
            for (int p : NO_POWERS) {
                dueAct("6: no power", t, t.put(0, which, 0, 1, p), BAD);
                dueAct("6: no power of 0", t, t.put(0, which, 0, 0, p), BAD);
            }
            dueAct("6: missing", t, t.put(1, which, 0, 1, 0), NULL);
            dueAct("6: missing, no item", t, t.put(1, which, -1, 1, 0), NULL);
            due("6: refused changes nothing", t.get(0, which, 0), 0);
        }
        t.row(2, READINGS, 0);
        dueAct("6: empty", t, t.put(2, READINGS, 0, 1, 0), INDEX);
        for (int s : NO_STATIONS) {
            dueAct("6: no station", t, t.put(s, 0, 0, 1, 0), BAD);
        }
        for (int which : NO_ROWS) {
            dueAct("6: no row", t, t.put(0, which, 0, 1, 0), BAD);
        }
    }

    private static void promise7Get() {
        TideStation t = withRows(3);
        t.put(0, READINGS, 2, -3, -1);
        t.put(0, PERIODS, 2, -3, -1);
        t.put(0, WEIGHTS, 2, -3, 40);
        dueNumber("7: a float, spread", t, t.get(0, READINGS, 2), 0xffffffffbfc00000L);
        dueNumber("7: a double", t, t.get(0, PERIODS, 2), 0xbff8000000000000L);
        dueNumber("7: a long", t, t.get(0, WEIGHTS, 2), -3L << 40);
        t.put(0, READINGS, 0, -1, -160);
        dueNumber("7: -0", t, t.get(0, READINGS, 0), 0xffffffff80000000L);
        t.move(0, READINGS, 0, PERIODS, 0);
        dueNumber("7: -0 as a double", t, t.get(0, PERIODS, 0), Long.MIN_VALUE);
        for (int p = -160; p <= 160; p++) {
            for (int v : new int[] {1, -3, 1234567, Integer.MAX_VALUE, Integer.MIN_VALUE}) {
                TideStation u = withRows(1);
                u.put(0, READINGS, 0, v, p);
                u.put(0, PERIODS, 0, v, p);
                due("7: float " + v + " " + p, u.get(0, READINGS, 0), bits((float) Math.scalb((double) v, p)));
                due("7: double " + v + " " + p, u.get(0, PERIODS, 0), bits(Math.scalb((double) v, p)));
            }
        }
        for (int which = 0; which < 3; which++) {
            for (int i : NO_ITEMS) {
                dueZero("7: no item", t, t.get(0, which, i), INDEX);
            }
            dueZero("7: missing", t, t.get(1, which, 0), NULL);
            dueZero("7: missing, no item", t, t.get(1, which, -1), NULL);
        }
        for (int s : NO_STATIONS) {
            dueZero("7: no station", t, t.get(s, 0, 0), BAD);
        }
        for (int which : NO_ROWS) {
            dueZero("7: no row", t, t.get(0, which, 0), BAD);
        }
    }

    /** A number put into a row and moved to another. */
    private static void moved(int from, int v, int p, int to, long want) {
        TideStation t = withRows(3);
        String what = "8: " + v + " " + p + " from " + from + " to " + to;
        t.put(0, from, 1, v, p);
        long before = t.get(0, from, 1);
        dueAct(what, t, t.move(0, from, 1, to, 2), 1);
        due(what, t.get(0, to, 2), want);
        due(what + " leaves the first", t.get(0, from, 1), before);
        due(what + " leaves the others", t.get(0, to, 0), 0);
    }

    private static void promise8Move() {
        long most = Long.MAX_VALUE, least = Long.MIN_VALUE;
        moved(READINGS, -5, -1, READINGS, bits(-2.5f));
        moved(READINGS, -5, -1, PERIODS, bits(-2.5));
        moved(READINGS, -5, -1, WEIGHTS, -2);
        moved(READINGS, 1, -149, PERIODS, bits(0x1p-149));
        moved(READINGS, 1, 128, PERIODS, bits(Double.POSITIVE_INFINITY));
        moved(READINGS, -1, 128, PERIODS, bits(Double.NEGATIVE_INFINITY));
        moved(READINGS, 1, 128, WEIGHTS, most);
        moved(READINGS, -1, 128, WEIGHTS, least);
        moved(READINGS, 1, 63, WEIGHTS, most);
        moved(READINGS, 1, 62, WEIGHTS, 1L << 62);
        moved(READINGS, -1, -160, READINGS, bits(-0f));
        moved(READINGS, -1, -160, PERIODS, bits(-0.0));
        moved(READINGS, -1, -160, WEIGHTS, 0);
        moved(PERIODS, 16777217, 0, READINGS, bits(16777216f));
        moved(PERIODS, 16777219, 0, READINGS, bits(16777220f));
        moved(PERIODS, 16777217, 0, PERIODS, bits(16777217.0));
        moved(PERIODS, 1, 128, READINGS, bits(Float.POSITIVE_INFINITY));
        moved(PERIODS, 33554431, 103, READINGS, bits(Float.POSITIVE_INFINITY));
        moved(PERIODS, 67108861, 102, READINGS, bits(Float.MAX_VALUE));
        moved(PERIODS, -1, -150, READINGS, bits(-0f));
        moved(PERIODS, 3, -151, READINGS, bits(Float.MIN_VALUE));
        moved(PERIODS, -7, -2, WEIGHTS, -1);
        moved(PERIODS, 1, 160, WEIGHTS, most);
        moved(PERIODS, -1, 160, WEIGHTS, least);
        moved(WEIGHTS, 16777217, 0, READINGS, bits(16777216f));
        moved(WEIGHTS, 16777219, 0, READINGS, bits(16777220f));
        moved(WEIGHTS, 1, 63, READINGS, bits(0x1p63f));
        moved(WEIGHTS, 1, 63, PERIODS, bits(0x1p63));
        moved(WEIGHTS, -1, 63, PERIODS, bits(-0x1p63));
        moved(WEIGHTS, 1, 63, WEIGHTS, most);
        moved(WEIGHTS, -9, 0, PERIODS, bits(-9.0));
        TideStation t = withRows(2);
        t.put(0, READINGS, 0, 6, 0);
        dueAct("8: onto itself", t, t.move(0, READINGS, 0, READINGS, 0), 1);
        due("8: onto itself", t.get(0, READINGS, 0), bits(6f));
    }

    private static void promise8MoveRefused() {
        TideStation t = withRows(3);
        t.put(0, READINGS, 0, 6, 0);
        for (int i : NO_ITEMS) {
            dueAct("8: no item i", t, t.move(0, READINGS, i, WEIGHTS, 0), INDEX);
            dueAct("8: no item j", t, t.move(0, READINGS, 0, WEIGHTS, i), INDEX);
            dueAct("8: no item j in the same", t, t.move(0, READINGS, 0, READINGS, i), INDEX);
        }
        t.lose(0, PERIODS);
        dueAct("8: first missing", t, t.move(0, PERIODS, 9, READINGS, 9), NULL);
        dueAct("8: INDEX of the first before NULL of the second", t, t.move(0, READINGS, 9, PERIODS, 0), INDEX);
        dueAct("8: second missing", t, t.move(0, READINGS, 0, PERIODS, 9), NULL);
        due("8: refused changes nothing", t.get(0, WEIGHTS, 0), 0);
        for (int s : NO_STATIONS) {
            dueAct("8: no station", t, t.move(s, 0, 0, 0, 0), BAD);
        }
        for (int which : NO_ROWS) {
            dueAct("8: no first", t, t.move(0, which, 0, 0, 0), BAD);
            dueAct("8: no second", t, t.move(0, 0, 0, which, 0), BAD);
            dueAct("8: BAD before NULL", t, t.move(1, 0, 0, which, 0), BAD);
        }
    }

    private static void restIs(int v, int p, int w, int q, float want) {
        TideStation t = withRows(3);
        t.put(0, READINGS, 0, v, p);
        t.put(0, READINGS, 2, w, q);
        long x = t.get(0, READINGS, 0);
        dueNumber("9: " + v + " " + p + " by " + w + " " + q, t, t.rest(0, 0, 2), bits(want));
        due("9: changes nothing", t.get(0, READINGS, 0), x);
    }

    private static void promise9Rest() {
        restIs(7, 0, 2, 0, 1f);
        restIs(-7, 0, 2, 0, -1f);
        restIs(7, 0, -2, 0, 1f);
        restIs(-7, 0, -2, 0, -1f);
        restIs(6, 0, 2, 0, 0f);
        restIs(-6, 0, 2, 0, -0f);
        restIs(-6, 0, -6, 0, -0f);
        restIs(5, 0, 5, 0, 0f);
        restIs(0, 0, 5, 0, 0f);
        restIs(0, 0, -5, 0, 0f);
        restIs(-1, -160, 5, 0, -0f);
        restIs(-1, -160, -1, 128, -0f);
        restIs(3, 0, 7, 0, 3f);
        restIs(3, 0, 1, 2, 3f);
        restIs(-3, 0, 1, 128, -3f);
        restIs(3, 0, -1, 128, 3f);
        restIs(1, 100, 3, 0, 1f);
        restIs(1, 127, 7, 0, 2f);
        restIs(1, 127, 3, -149, 0x1p-149f);
        restIs(16777215, 104, 5, -149, (float) (0xffffffp104 % 0x5p-149));
        restIs(1, -149, 3, -149, 0x1p-149f);
        restIs(8388607, -149, 5, -149, 0x2p-149f);
        restIs(15, -1, 1, -2, 0f);
        restIs(15, -3, 1, 0, 0.875f);
        restIs(1, 0, 16777215, -24, 0x1p-24f);
    }

    private static void promise9RestRefused() {
        TideStation t = withRows(3);
        t.put(0, READINGS, 0, 5, 0);
        t.put(0, READINGS, 2, 1, 128);
        dueZero("9: by 0", t, t.rest(0, 0, 1), NONE);
        dueZero("9: 0 by 0", t, t.rest(0, 1, 1), NONE);
        t.put(0, READINGS, 1, -1, -160);
        dueZero("9: by -0", t, t.rest(0, 0, 1), NONE);
        dueZero("9: of endless", t, t.rest(0, 2, 0), NONE);
        dueZero("9: of endless by endless", t, t.rest(0, 2, 2), NONE);
        dueZero("9: of endless by -0", t, t.rest(0, 2, 1), NONE);
        t.put(0, READINGS, 2, -1, 128);
        dueZero("9: of endless below 0", t, t.rest(0, 2, 0), NONE);
        due("9: NONE is counted", t.refused(5), 7);
        for (int i : NO_ITEMS) {
            dueZero("9: no item i", t, t.rest(0, i, 1), INDEX);
            dueZero("9: no item j", t, t.rest(0, 2, i), INDEX);
        }
        t.lose(0, READINGS);
        dueZero("9: missing", t, t.rest(0, -1, 9), NULL);
        for (int s : NO_STATIONS) {
            dueZero("9: no station", t, t.rest(s, 0, 0), BAD);
        }
    }

    private static void stepIs(int v, int p, int w, int q, float want) {
        TideStation t = withRows(3);
        t.put(0, READINGS, 0, v, p);
        t.put(0, READINGS, 2, w, q);
        long y = t.get(0, READINGS, 2);
        dueAct("10: " + v + " " + p + " by " + w + " " + q, t, t.step(0, 0, 2), 1);
        due("10: " + v + " " + p + " by " + w + " " + q, t.get(0, READINGS, 0), bits(want));
        due("10: leaves the other", t.get(0, READINGS, 2), y);
    }

    private static void promise10Step() {
        stepIs(7, 0, 2, 0, 6f);
        stepIs(-7, 0, 2, 0, -6f);
        stepIs(7, 0, -2, 0, 6f);
        stepIs(6, 0, 2, 0, 6f);
        stepIs(-6, 0, 2, 0, -6f);
        stepIs(3, 0, 7, 0, 0f);
        stepIs(-3, 0, 7, 0, 0f);
        stepIs(-1, -160, 7, 0, 0f);
        stepIs(3, 0, 1, 128, 0f);
        stepIs(1, 100, 3, 0, 0x1p100f);
        stepIs(16777215, 0, 3, -1, 16777215f);
        stepIs(16777213, 0, 15, -4, 16777212f);
        stepIs(8388607, -149, 5, -149, 8388605 * 0x1p-149f);
        TideStation t = withRows(3);
        t.put(0, READINGS, 0, 5, 0);
        dueAct("10: by itself", t, t.step(0, 0, 0), 1);
        due("10: by itself", t.get(0, READINGS, 0), bits(5f));
        dueAct("10: by 0", t, t.step(0, 0, 1), NONE);
        t.put(0, READINGS, 2, 1, 128);
        dueAct("10: of endless", t, t.step(0, 2, 0), NONE);
        due("10: refused changes nothing", t.get(0, READINGS, 0), bits(5f));
        due("10: refused changes nothing", t.get(0, READINGS, 2), bits(Float.POSITIVE_INFINITY));
        for (int i : NO_ITEMS) {
            dueAct("10: no item i", t, t.step(0, i, 1), INDEX);
            dueAct("10: no item j", t, t.step(0, 2, i), INDEX);
        }
        t.lose(0, READINGS);
        dueAct("10: missing", t, t.step(0, -1, 9), NULL);
        for (int s : NO_STATIONS) {
            dueAct("10: no station", t, t.step(s, 0, 0), BAD);
        }
    }

    private static void wholeIs(int v, int p, long want) {
        TideStation t = withRows(3);
        t.put(0, READINGS, 1, v, p);
        dueNumber("11: " + v + " " + p, t, t.whole(0, 1), want);
    }

    private static void promise11Whole() {
        wholeIs(0, 0, 0);
        wholeIs(-1, -160, 0);
        wholeIs(15, -2, 3);
        wholeIs(-15, -2, -3);
        wholeIs(1, -149, 0);
        wholeIs(16777217, 0, 16777216);
        wholeIs(-16777219, 0, -16777220);
        wholeIs(16777215, 39, 16777215L << 39);
        wholeIs(1, 63, Long.MAX_VALUE);
        wholeIs(-1, 63, Long.MIN_VALUE);
        wholeIs(3, 100, Long.MAX_VALUE);
        wholeIs(1, 160, Long.MAX_VALUE);
        wholeIs(-1, 160, Long.MIN_VALUE);
        TideStation t = withRows(3);
        for (int i : NO_ITEMS) {
            dueZero("11: no item", t, t.whole(0, i), INDEX);
        }
        dueZero("11: missing", t, t.whole(1, -1), NULL);
        for (int s : NO_STATIONS) {
            dueZero("11: no station", t, t.whole(s, 0), BAD);
        }
    }

    private static void phaseIs(int v, int p, int w, int q, double want) {
        TideStation t = withRows(3);
        t.put(0, PERIODS, 2, w, q);
        dueNumber("12: " + v + " " + p + " by " + w + " " + q, t, t.phase(0, 2, v, p), bits(want));
        due("12: changes nothing", t.get(0, PERIODS, 2), bits(Math.scalb((double) w, q)));
    }

    private static void promise12Phase() {
        phaseIs(7, 0, 2, 0, 1.0);
        phaseIs(-7, 0, 2, 0, -1.0);
        phaseIs(7, 0, -2, 0, 1.0);
        phaseIs(-6, 0, 2, 0, -0.0);
        phaseIs(0, 0, -2, 0, 0.0);
        phaseIs(5, -160, 3, -160, 0x2p-160);
        phaseIs(1, 160, 3, -160, 0x1p-160 * 1);
        phaseIs(Integer.MIN_VALUE, 160, 7, -160, Math.scalb(-1.0, 191) % 0x7p-160);
        phaseIs(Integer.MAX_VALUE, 160, Integer.MAX_VALUE, -160, 0.0);
        phaseIs(Integer.MAX_VALUE, 160, 2147483629, -160, (2147483647 * 0x1p160) % (2147483629 * 0x1p-160));
        phaseIs(3, 0, 1, 160, 3.0);
        phaseIs(-1, -160, 1, 160, -0x1p-160);
        TideStation t = withRows(3);
        t.put(0, READINGS, 0, -1, 128);
        t.move(0, READINGS, 0, PERIODS, 0);
        dueNumber("12: by endless", t, t.phase(0, 0, -9, 0), bits(-9.0));
        t.put(0, WEIGHTS, 0, 1, 63);
        t.move(0, WEIGHTS, 0, PERIODS, 1);
        dueNumber("12: by a long's", t, t.phase(0, 1, 3, 63), bits(0.0));
        t.put(0, PERIODS, 1, 0, 0);
        dueZero("12: by 0", t, t.phase(0, 1, 5, 0), NONE);
        dueZero("12: 0 by 0", t, t.phase(0, 1, 0, 0), NONE);
        t.put(0, READINGS, 0, -1, -160);
        t.move(0, READINGS, 0, PERIODS, 1);
        dueZero("12: by -0", t, t.phase(0, 1, 5, 0), NONE);
        for (int k : NO_ITEMS) {
            dueZero("12: no item", t, t.phase(0, k, 5, 0), INDEX);
        }
        for (int p : NO_POWERS) {
            dueZero("12: no power", t, t.phase(1, 9, 5, p), BAD);
        }
        dueZero("12: missing", t, t.phase(1, -1, 5, 0), NULL);
        for (int s : NO_STATIONS) {
            dueZero("12: no station", t, t.phase(s, 0, 5, 0), BAD);
        }
    }

    private static void tideIs(int v, int p, int w, int q, int weight, double want) {
        TideStation t = withRows(1);
        t.put(0, PERIODS, 0, w, q);
        t.put(0, WEIGHTS, 0, weight, 0);
        dueNumber("13: " + v + " " + p + " by " + w + " " + q, t, t.tide(0, v, p), bits(want));
    }

    private static void promise13Tide() {
        tideIs(1, 0, 10, 0, 3, 3.0);
        tideIs(9, 0, 10, 0, 3, 3.0);
        tideIs(5, 0, 10, 0, 3, 15.0);
        tideIs(10, 0, 10, 0, 3, 0.0);
        tideIs(12, 0, -10, 0, 3, 6.0);
        tideIs(-2, 0, 10, 0, 3, 6.0);
        tideIs(-12, 0, -10, 0, -3, -6.0);
        tideIs(-10, 0, 10, 0, -3, 0.0);
        tideIs(-7, 0, 10, 0, 3, 9.0);
        tideIs(0, 0, 10, 0, -3, 0.0);
        tideIs(3, 0, 10, 0, 0, 0.0);
        // what is added below half of a last place is lost: r becomes w, and nothing is left
        tideIs(-1, -100, 10, 0, 3, 0.0);
        tideIs(1, -100, 10, 0, 3, 0x3p-100);
        tideIs(1, 160, 3, 0, 5, 5.0);
        tideIs(1, 160, -1, 160, 5, 0.0);
        tideIs(1, 159, 1, 160, 5, 0x5p159);
    }

    private static void promise13TideSums() {
        TideStation t = withRows(5);
        t.put(0, PERIODS, 0, 10, 0);
        t.put(0, PERIODS, 2, -4, 0);
        t.put(0, PERIODS, 4, 1, 2);
        t.put(0, WEIGHTS, 0, 1, 60);
        t.put(0, WEIGHTS, 1, 100, 0);
        t.put(0, WEIGHTS, 2, 1, 0);
        t.put(0, WEIGHTS, 3, 100, 0);
        t.put(0, WEIGHTS, 4, -1, 60);
        // (2 to the 60 + 1) - 2 to the 60, from the first on: the 1 is lost
        dueNumber("13: from PERIOD 0 on", t, t.tide(0, 1, 0), bits(0.0));
        t.put(0, WEIGHTS, 4, -1, 0);
        t.put(0, WEIGHTS, 0, 7, 0);
        dueNumber("13: a sum", t, t.tide(0, 3, 0), bits(21.0));
        t.put(0, READINGS, 0, 1, 128);
        t.move(0, READINGS, 0, PERIODS, 1);
        t.put(0, READINGS, 0, -1, -160);
        t.move(0, READINGS, 0, PERIODS, 3);
        dueNumber("13: endless and -0 have no wave", t, t.tide(0, 3, 0), bits(21.0));
        t.put(0, PERIODS, 1, 1, 160);
        t.put(0, WEIGHTS, 1, Integer.MAX_VALUE, 33);
        dueNumber("13: the nearest double of a weight", t, t.tide(0, 1, 63),
            bits(0.0 + 2 * 7 + 0x1p63 * (double) Long.MAX_VALUE));
        TideStation all = withRows(24);
        for (int k = 0; k < 24; k++) {
            all.put(0, PERIODS, k, Integer.MIN_VALUE, 160);
            all.put(0, WEIGHTS, k, -1, 63);
        }
        dueNumber("13: the greatest", all, all.tide(0, 1, 160), bits(-24 * 0x1p223));
        dueNumber("13: the greatest at its half", all, all.tide(0, 1 << 30, 160), bits(-24 * 0x1p253));
    }

    private static void promise13TideRefused() {
        TideStation t = new TideStation();
        dueZero("13: no PERIODS", t, t.tide(0, 1, 0), NULL);
        t.row(0, PERIODS, 0);
        dueNumber("13: no waves", t, t.tide(0, 1, 0), 0);
        t.row(0, PERIODS, 3);
        dueNumber("13: only PERIODS of 0", t, t.tide(0, 1, 0), 0);
        t.put(0, PERIODS, 1, 10, 0);
        dueZero("13: WEIGHTS are needed", t, t.tide(0, 1, 0), NULL);
        t.row(0, WEIGHTS, 0);
        dueZero("13: too few WEIGHTS", t, t.tide(0, 1, 0), INDEX);
        t.row(0, WEIGHTS, 1);
        dueZero("13: still too few", t, t.tide(0, 1, 0), INDEX);
        t.row(0, WEIGHTS, 2);
        t.put(0, WEIGHTS, 1, 2, 0);
        dueNumber("13: enough for its waves", t, t.tide(0, 1, 0), bits(2.0));
        for (int p : NO_POWERS) {
            dueZero("13: no power", t, t.tide(1, 1, p), BAD);
        }
        for (int s : NO_STATIONS) {
            dueZero("13: no station", t, t.tide(s, 1, 0), BAD);
        }
        due("13: NULL is counted", t.refused(0), 2);
        due("13: INDEX is counted", t.refused(1), 2);
    }

    private static void promise14Rack() {
        TideStation t = new TideStation();
        dueAct("14: rack", t, t.rack(5, false), 1);
        for (int i = 0; i < 4; i++) {
            dueAct("14: nothing in it", t, t.stepOf(5, i), NULL);
            t.hang(5, i, 2, 7);
        }
        dueAct("14: of its station alone", t, t.stepOf(4, 0), NULL);
        dueAct("14: another", t, t.rack(5, true), 1);
        for (int i = 0; i < 4; i++) {
            dueAct("14: nothing in the other", t, t.stepOf(5, i), NULL);
        }
        dueAct("14: narrow now", t, t.hang(5, 0, 1, 0), STORE);
        t.rack(5, false);
        dueAct("14: wide now", t, t.hang(5, 0, 1, 0), 1);
        for (int s : NO_STATIONS) {
            dueAct("14: no station", t, t.rack(s, true), BAD);
        }
    }

    private static void promise15Hang() {
        TideStation t = new TideStation();
        t.rack(0, false);
        t.rack(1, true);
        for (int i = 0; i < 4; i++) {
            dueAct("15: a meter", t, t.hang(0, i, 1, -5), 1);
            dueAct("15: is none of float", t, t.stepOf(0, i), CAST);
            dueAct("15: a float meter", t, t.hang(1, i, 2, i + 1), 1);
            due("15: its step", t.stepOf(1, i), i + 1);
            dueAct("15: STORE", t, t.hang(1, i, 1, 5), STORE);
            due("15: refused changes nothing", t.stepOf(1, i), i + 1);
        }
        dueAct("15: a float meter in a wide one", t, t.hang(0, 0, 2, 1000), 1);
        due("15: greatest step", t.stepOf(0, 0), 1000);
        dueAct("15: nothing", t, t.hang(0, 0, 0, Integer.MAX_VALUE), 1);
        dueAct("15: nothing is there", t, t.stepOf(0, 0), NULL);
        dueAct("15: nothing in a narrow one", t, t.hang(1, 0, 0, 0), 1);
        dueAct("15: nothing is there", t, t.stepOf(1, 0), NULL);
        for (int i : NO_PLACES) {
            for (int kind = 0; kind < 3; kind++) {
                dueAct("15: no place", t, t.hang(0, i, kind, 1), INDEX);
                dueAct("15: INDEX before STORE", t, t.hang(1, i, kind, 1), INDEX);
                dueAct("15: NULL before INDEX", t, t.hang(2, i, kind, 1), NULL);
            }
        }
        for (int s : new int[] {0, -1, 1001, Integer.MAX_VALUE, Integer.MIN_VALUE}) {
            dueAct("15: no step", t, t.hang(1, 1, 2, s), BAD);
            dueAct("15: no step, no rack", t, t.hang(2, 9, 2, s), BAD);
        }
        for (int kind : NO_ROWS) {
            dueAct("15: no kind", t, t.hang(1, 1, kind, 1), BAD);
        }
        for (int s : NO_STATIONS) {
            dueAct("15: no station", t, t.hang(s, 0, 0, 0), BAD);
        }
        due("15: refused changes nothing", t.stepOf(1, 1), 2);
        due("15: STORE is counted", t.refused(4), 4);
    }

    private static void readIs(int v, int p, int s, int meter, int floatMeter) {
        TideStation t = withRows(3);
        t.rack(0, false);
        t.hang(0, 0, 1, 0);
        t.hang(0, 3, 2, s);
        t.put(0, READINGS, 2, v, p);
        dueNumber("16: " + v + " " + p + " by a meter", t, t.read(0, 0, 2), meter);
        dueNumber("16: " + v + " " + p + " by steps of " + s, t, t.read(0, 3, 2), floatMeter);
    }

    private static void promise16Read() {
        int most = Integer.MAX_VALUE, least = Integer.MIN_VALUE;
        readIs(0, 0, 64, 0, 0);
        readIs(-1, -160, 64, 0, 0);
        readIs(7, 0, 128, 7, 6);
        readIs(-7, 0, 128, -7, -6);
        readIs(15, -1, 16, 7, 7);
        readIs(15, -2, 1, 3, 3);
        readIs(15, -2, 96, 3, 3);
        readIs(29, -2, 96, 7, 6);
        readIs(100, 0, 1000, 100, 93);
        readIs(-100, 0, 1000, -100, -93);
        readIs(15, 0, 1000, 15, 0);
        readIs(63, -6, 64, 0, 0);
        readIs(16777213, 0, 60, 16777213, 16777212);
        readIs(1, 31, 64, most, most);
        readIs(-1, 31, 64, least, least);
        readIs(-3, 31, 3, least, least);
        readIs(16777215, 7, 64, 2147483520, 2147483520);
        readIs(1, 100, 3, most, most);
        readIs(1, 128, 3, most, most);
        readIs(-1, 128, 3, least, least);
        for (int s = 1; s <= 1000; s += 37) {
            readIs(12345, -4, s, 771, (int) (771.5625f - 771.5625f % (s / 64f)));
        }
    }

    private static void promise16ReadRefused() {
        TideStation t = new TideStation();
        dueZero("16: no rack", t, t.read(0, 9, 9), NULL);
        t.rack(0, false);
        t.hang(0, 1, 1, 0);
        for (int i : NO_PLACES) {
            dueZero("16: INDEX of the place before NULL of READINGS", t, t.read(0, i, 0), INDEX);
        }
        dueZero("16: no READINGS", t, t.read(0, 1, 9), NULL);
        dueZero("16: no READINGS, no meter", t, t.read(0, 0, 9), NULL);
        t.row(0, READINGS, 3);
        t.put(0, READINGS, 0, 5, 0);
        for (int x : NO_ITEMS) {
            dueZero("16: no item", t, t.read(0, 1, x), INDEX);
            dueZero("16: INDEX of x before NULL of the meter", t, t.read(0, 0, x), INDEX);
        }
        dueZero("16: no meter", t, t.read(0, 0, 0), NULL);
        dueNumber("16: a meter", t, t.read(0, 1, 0), 5);
        t.row(1, READINGS, 3);
        dueZero("16: READINGS, but no rack", t, t.read(1, 0, 0), NULL);
        for (int s : NO_STATIONS) {
            dueZero("16: no station", t, t.read(s, 1, 0), BAD);
        }
    }

    private static void promise17StepOf() {
        TideStation t = new TideStation();
        dueAct("17: no rack", t, t.stepOf(0, 9), NULL);
        t.rack(0, false);
        for (int i : NO_PLACES) {
            dueAct("17: no place", t, t.stepOf(0, i), INDEX);
        }
        dueAct("17: nothing there", t, t.stepOf(0, 0), NULL);
        t.hang(0, 0, 1, 64);
        dueAct("17: no float meter", t, t.stepOf(0, 0), CAST);
        for (int s = 1; s <= 999; s += 7) {
            TideStation u = new TideStation();
            u.rack(3, s % 2 == 0);
            u.hang(3, s % 4, 2, s);
            dueNumber("17: step", u, u.stepOf(3, s % 4), s);
        }
        for (int s : NO_STATIONS) {
            dueAct("17: no station", t, t.stepOf(s, 0), BAD);
        }
        due("17: CAST is counted", t.refused(3), 1);
    }

    private static void promise18Refused() {
        TideStation t = new TideStation();
        refuseBy(t, NULL, 1);
        refuseBy(t, INDEX, 2);
        refuseBy(t, SIZE, 3);
        refuseBy(t, CAST, 4);
        refuseBy(t, STORE, 5);
        refuseBy(t, NONE, 6);
        refuseBy(t, BAD, 7);
        for (int what = 0; what < 6; what++) {
            due("18: refused " + what, t.refused(what), what + 1);
            due("18: again " + what, t.refused(what), what + 1);
        }
        t.lose(0, READINGS);
        for (int what : new int[] {-1, 6, Integer.MAX_VALUE, Integer.MIN_VALUE}) {
            due("18: no such", t.refused(what), BAD);
            due("18: is no act", t.why(), 0);
        }
        t.size(0, READINGS);
        due("18: counted on", t.refused(0), 2);
        due("18: is no act", t.why(), NULL);
    }

    private static void refuseBy(TideStation t, int reason, int times) {
        t.row(0, READINGS, 1);
        t.rack(0, true);
        t.rack(1, false);
        t.hang(1, 0, 1, 0);
        for (int k = 0; k < times; k++) {
            if (reason == NULL) {
                t.get(5, READINGS, 0);
            } else if (reason == INDEX) {
                t.get(0, READINGS, 1);
            } else if (reason == SIZE) {
                t.row(0, READINGS, -1);
            } else if (reason == CAST) {
                t.stepOf(1, 0);
            } else if (reason == STORE) {
                t.hang(0, 0, 1, 0);
            } else if (reason == NONE) {
                t.rest(0, 0, 0);
            } else {
                t.row(0, READINGS, 25);
            }
            due("18: why", t.why(), reason);
        }
    }

    private static void promise19Why() {
        TideStation t = new TideStation();
        int[] reasons = {BAD, NULL, INDEX, SIZE, CAST, STORE, NONE};
        for (int reason : reasons) {
            refuseBy(t, reason, 1);
            due("19: why", t.why(), reason);
            due("19: why again", t.why(), reason);
            t.refused(0);
            due("19: refused is no act", t.why(), reason);
            t.refused(6);
            due("19: not even a wrong one", t.why(), reason);
        }
        due("19: the constants", TideStation.NONE, NONE);
        due("19: the constants", TideStation.BAD, BAD);
        due("19: the constants", TideStation.NULL, NULL);
        due("19: the constants", TideStation.INDEX, INDEX);
        due("19: the constants", TideStation.SIZE, SIZE);
        due("19: the constants", TideStation.CAST, CAST);
        due("19: the constants", TideStation.STORE, STORE);
        clearedByEachAct();
    }

    private static void clearedByEachAct() {
        TideStation t = withRows(2);
        t.rack(0, false);
        t.hang(0, 0, 2, 64);
        t.put(0, READINGS, 0, 5, 0);
        t.put(0, READINGS, 1, 5, 0);
        t.put(0, PERIODS, 0, 5, 0);
        for (int act = 0; act < 16; act++) {
            t.size(9, 9);
            due("19: BAD before act " + act, t.why(), BAD);
            accept(t, act);
            due("19: cleared by act " + act, t.why(), 0);
        }
    }

    private static void accept(TideStation t, int act) {
        switch (act) {
            case 0: t.row(1, 0, 1); break;
            case 1: t.lose(1, 0); break;
            case 2: t.share(1, 0, 0); break;
            case 3: t.size(0, 0); break;
            case 4: t.put(0, 0, 0, 5, 0); break;
            case 5: t.get(0, 0, 0); break;
            case 6: t.move(0, 0, 0, 2, 0); break;
            case 7: t.rest(0, 0, 1); break;
            case 8: t.step(0, 0, 1); break;
            case 9: t.whole(0, 0); break;
            case 10: t.phase(0, 0, 1, 0); break;
            case 11: t.tide(0, 1, 0); break;
            case 12: t.rack(1, true); break;
            case 13: t.hang(0, 1, 1, 0); break;
            case 14: t.read(0, 0, 0); break;
            default: t.stepOf(0, 0); break;
        }
    }

    private static void badComesFirst() {
        TideStation t = new TideStation();
        t.put(0, 0, -1, 0, 161);
        due("BAD before NULL and INDEX", t.why(), BAD);
        t.phase(0, -1, 0, -161);
        due("BAD before NULL and INDEX", t.why(), BAD);
        t.hang(0, -1, 3, 0);
        due("BAD before NULL and INDEX", t.why(), BAD);
        t.row(0, 0, 1);
        t.rest(0, 0, 9);
        due("INDEX before NONE", t.why(), INDEX);
        for (int what = 0; what < 6; what++) {
            due("BAD is not counted", t.refused(what), what == 1 ? 1 : 0);
        }
    }
}
