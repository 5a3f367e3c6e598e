import java.util.ArrayList;
import java.util.Arrays;
import java.util.List;

/**
 * Every refusal of every promise, on a station furnished for it: the last argument that is allowed and the
 * first that is not, of several refusals the first one, and that a refused call changes nothing.
 */
public final class RefusalBoundaryTests {
    private static final int NONE = -1, BAD = -2, NULL = -3, INDEX = -4, SIZE = -5, CAST = -6, STORE = -7;
    /** The reasons in the order in which refused(0), refused(1), .. count them. */
    private static final int[] COUNTED = {NULL, INDEX, SIZE, CAST, STORE, NONE};

    private static final int READINGS = 0, PERIODS = 1, WEIGHTS = 2;
    private static final int LEAST = Integer.MIN_VALUE, MOST = Integer.MAX_VALUE;

    private static final int[] NO_STATIONS = {-1, 6, LEAST, MOST};
    private static final int[] NO_ROWS = {-1, 3, LEAST, MOST};
    private static final int[] NO_POWERS = {-161, 161, LEAST, MOST};
    private static final int[] NO_PLACES = {-1, 4, LEAST, MOST};

    /** What the furnished station has: see furnished(). */
    private static final int USUAL = 0, EMPTY = 1, SHARING = 2, RACK_ALONE = 3, BARE = 4, LAST = 5;

    private enum Act { ROW, LOSE, SHARE, SIZE, PUT, GET, MOVE, REST, STEP, WHOLE, PHASE, TIDE, RACK, HANG, READ, STEP_OF }

    /** The acts that answer any number, and so 0 where they are refused. */
    private static final List<Act> ANY_NUMBER =
        List.of(Act.GET, Act.REST, Act.WHOLE, Act.PHASE, Act.TIDE, Act.READ);

    private static int wrong = 0;

    public static void main(String[] args) {
        promise2Row();
        promise3Lose();
        promise4Share();
        promise5Size();
        promise6Put();
        promise7Get();
        promise8Move();
        promise8MoveInOrder();
        promise9Rest();
        promise10Step();
        promise11Whole();
        promise12Phase();
        promise13Tide();
        promise14Rack();
        promise15Hang();
        promise16Read();
        promise17StepOf();
        promise18Refused();
        promise19Why();
        System.out.println(wrong == 0 ? "all refusals are as promised" : wrong + " refusals are not as promised");
        if (wrong != 0) {
            System.exit(1);
        }
    }

    private static void due(String what, long got, long want) {
        if (got != want) {
            wrong++;
            System.out.println(what + ": answered " + got + ", due is " + want);
        }
    }

    private static long call(TideStation t, Act act, int[] a) {
        switch (act) {
            case ROW: return t.row(a[0], a[1], a[2]);
            case LOSE: return t.lose(a[0], a[1]);
            case SHARE: return t.share(a[0], a[1], a[2]);
            case SIZE: return t.size(a[0], a[1]);
            case PUT: return t.put(a[0], a[1], a[2], a[3], a[4]);
            case GET: return t.get(a[0], a[1], a[2]);
            case MOVE: return t.move(a[0], a[1], a[2], a[3], a[4]);
            case REST: return t.rest(a[0], a[1], a[2]);
            case STEP: return t.step(a[0], a[1], a[2]);
            case WHOLE: return t.whole(a[0], a[1]);
            case PHASE: return t.phase(a[0], a[1], a[2], a[3]);
            case TIDE: return t.tide(a[0], a[1], a[2]);
            case RACK: return t.rack(a[0], a[1] != 0);
            case HANG: return t.hang(a[0], a[1], a[2], a[3]);
            case READ: return t.read(a[0], a[1], a[2]);
            default: return t.stepOf(a[0], a[1]);
        }
    }

    /**
     * USUAL: READINGS 5.5, -0, endless, 0; PERIODS 12, 0, -0; WEIGHTS 7; a wide RACK with a METER, a FLOAT METER
     * of 64, nothing, a FLOAT METER of 1000. EMPTY: READINGS and WEIGHTS of no items, 24 PERIODS, the last one
     * 3; a narrow RACK with a FLOAT METER of 1 at PLACE 0. SHARING: the READINGS of USUAL. RACK_ALONE: a narrow
     * RACK with nothing in it. BARE: all MISSING. LAST: one item of each, the PERIOD 4; a wide RACK with nothing.
     */
    private static TideStation furnished() {
        TideStation t = new TideStation();
        t.row(USUAL, READINGS, 4);
        t.put(USUAL, READINGS, 0, 11, -1);
        t.put(USUAL, READINGS, 1, -1, -160);
        t.put(USUAL, READINGS, 2, 1, 160);
        t.row(USUAL, PERIODS, 3);
        t.put(USUAL, PERIODS, 0, 12, 0);
        t.move(USUAL, READINGS, 1, PERIODS, 2);
        t.row(USUAL, WEIGHTS, 1);
        t.put(USUAL, WEIGHTS, 0, 7, 0);
        t.rack(USUAL, false);
        t.hang(USUAL, 0, 1, 0);
        t.hang(USUAL, 1, 2, 64);
        t.hang(USUAL, 3, 2, 1000);
        t.row(EMPTY, READINGS, 0);
        t.row(EMPTY, PERIODS, 24);
        t.put(EMPTY, PERIODS, 23, 3, 0);
        t.row(EMPTY, WEIGHTS, 0);
        t.rack(EMPTY, true);
        t.hang(EMPTY, 0, 2, 1);
        t.share(SHARING, READINGS, USUAL);
        t.rack(RACK_ALONE, true);
        t.row(LAST, READINGS, 1);
        t.row(LAST, PERIODS, 1);
        t.put(LAST, PERIODS, 0, 4, 0);
        t.row(LAST, WEIGHTS, 1);
        t.rack(LAST, false);
        return t;
    }

    private static void countsOf(TideStation t, List<Long> sight) {
        for (int what = 0; what < 6; what++) {
            sight.add((long) t.refused(what));
        }
    }

    private static void itemsOf(TideStation t, List<Long> sight) {
        for (int s = 0; s < 6; s++) {
            for (int which = 0; which < 3; which++) {
                int n = t.size(s, which);
                sight.add((long) n);
                for (int i = 0; i < n; i++) {
                    sight.add(t.get(s, which, i));
                }
            }
        }
    }

    /**
     * All that can be seen of an object. What it is made of (which rows are shared, which racks are narrow) is
     * seen by changing it, so the object is of no use afterwards.
     */
    private static List<Long> sightOf(TideStation t) {
        List<Long> sight = new ArrayList<>();
        itemsOf(t, sight);
        for (int s = 0; s < 6; s++) {
            for (int i = 0; i < 4; i++) {
                sight.add((long) t.stepOf(s, i));
            }
            sight.add((long) t.hang(s, 2, 1, 0));
        }
        for (int s = 0; s < 6; s++) {
            for (int which = 0; which < 3; which++) {
                sight.add((long) t.put(s, which, 0, 100 + 10 * s + which, 0));
            }
        }
        itemsOf(t, sight);
        return sight;
    }

    /** The call is refused for just this reason, counted once (BAD is not), and changes nothing. */
    private static void refuses(int reason, Act act, int... a) {
        String what = act + Arrays.toString(a);
        TideStation t = furnished();
        TideStation untouched = furnished();
        due(what, call(t, act, a), ANY_NUMBER.contains(act) ? 0 : reason);
        due(what + ", why", t.why(), reason);
        for (int k = 0; k < COUNTED.length; k++) {
            due(what + ", refused(" + k + ")", t.refused(k), COUNTED[k] == reason ? 1 : 0);
        }
        due(what + ", why after refused", t.why(), reason);
        due(what + " changes nothing", sightOf(t).equals(sightOf(untouched)) ? 1 : 0, 1);
    }

    /** The call is not refused, and answers what is due. */
    private static void allows(long want, Act act, int... a) {
        String what = act + Arrays.toString(a);
        TideStation t = furnished();
        t.size(-1, -1);
        due(what, call(t, act, a), want);
        due(what + ", why", t.why(), 0);
        for (int k = 0; k < COUNTED.length; k++) {
            due(what + ", refused(" + k + ")", t.refused(k), 0);
        }
    }

    private static long bits(float x) {
        return Float.floatToRawIntBits(x);
    }

    private static long bits(double x) {
        return Double.doubleToRawLongBits(x);
    }

    /** "BAD: also n above 24; SIZE: n is below 0." */
    private static void promise2Row() {
        for (int s : NO_STATIONS) {
            refuses(BAD, Act.ROW, s, READINGS, 1);
            refuses(BAD, Act.ROW, s, READINGS, -1);
        }
        for (int which : NO_ROWS) {
            refuses(BAD, Act.ROW, USUAL, which, 1);
            refuses(BAD, Act.ROW, USUAL, which, -1);
        }
        for (int which = READINGS; which <= WEIGHTS; which++) {
            refuses(BAD, Act.ROW, USUAL, which, 25);
            refuses(BAD, Act.ROW, BARE, which, 25);
            refuses(BAD, Act.ROW, USUAL, which, MOST);
            refuses(SIZE, Act.ROW, USUAL, which, -1);
            refuses(SIZE, Act.ROW, BARE, which, -1);
            refuses(SIZE, Act.ROW, USUAL, which, LEAST);
            allows(1, Act.ROW, 0, which, 0);
            allows(1, Act.ROW, 0, which, 24);
            allows(1, Act.ROW, 5, which, 0);
            allows(1, Act.ROW, 5, which, 24);
        }
    }

    /** "0: it was. BAD." */
    private static void promise3Lose() {
        for (int s : NO_STATIONS) {
            refuses(BAD, Act.LOSE, s, READINGS);
        }
        for (int which : NO_ROWS) {
            refuses(BAD, Act.LOSE, USUAL, which);
        }
        for (int which = READINGS; which <= WEIGHTS; which++) {
            allows(1, Act.LOSE, 0, which);
            allows(1, Act.LOSE, 5, which);
            allows(0, Act.LOSE, BARE, which);
        }
        allows(1, Act.LOSE, EMPTY, READINGS);
        allows(1, Act.LOSE, SHARING, READINGS);
    }

    /** "(MISSING, if that is): 1. BAD." */
    private static void promise4Share() {
        for (int s : NO_STATIONS) {
            refuses(BAD, Act.SHARE, s, READINGS, USUAL);
            refuses(BAD, Act.SHARE, USUAL, READINGS, s);
        }
        for (int which : NO_ROWS) {
            refuses(BAD, Act.SHARE, USUAL, which, LAST);
        }
        for (int which = READINGS; which <= WEIGHTS; which++) {
            allows(1, Act.SHARE, 0, which, 5);
            allows(1, Act.SHARE, 5, which, 0);
            allows(1, Act.SHARE, USUAL, which, USUAL);
            allows(1, Act.SHARE, USUAL, which, BARE);
            allows(1, Act.SHARE, BARE, which, BARE);
        }
    }

    /** "How many items. BAD; NULL." */
    private static void promise5Size() {
        for (int s : NO_STATIONS) {
            refuses(BAD, Act.SIZE, s, READINGS);
        }
        for (int which : NO_ROWS) {
            refuses(BAD, Act.SIZE, USUAL, which);
            refuses(BAD, Act.SIZE, BARE, which);
        }
        for (int which = READINGS; which <= WEIGHTS; which++) {
            refuses(NULL, Act.SIZE, BARE, which);
            allows(1, Act.SIZE, LAST, which);
        }
        allows(4, Act.SIZE, USUAL, READINGS);
        allows(0, Act.SIZE, EMPTY, READINGS);
        allows(24, Act.SIZE, EMPTY, PERIODS);
    }

    /** "BAD; NULL; INDEX." with "p -160 .. 160" */
    private static void promise6Put() {
        for (int s : NO_STATIONS) {
            refuses(BAD, Act.PUT, s, READINGS, 0, 1, 0);
        }
        for (int which : NO_ROWS) {
            refuses(BAD, Act.PUT, USUAL, which, 0, 1, 0);
            refuses(BAD, Act.PUT, BARE, which, -1, 1, 0);
        }
        for (int p : NO_POWERS) {
            for (int which = READINGS; which <= WEIGHTS; which++) {
                refuses(BAD, Act.PUT, USUAL, which, 0, 1, p);
                refuses(BAD, Act.PUT, USUAL, which, 0, 0, p);
                refuses(BAD, Act.PUT, USUAL, which, 4, 1, p);
                refuses(BAD, Act.PUT, BARE, which, 0, 1, p);
            }
        }
        for (int which = READINGS; which <= WEIGHTS; which++) {
            allows(1, Act.PUT, LAST, which, 0, MOST, 160);
            allows(1, Act.PUT, LAST, which, 0, LEAST, -160);
            refuses(NULL, Act.PUT, BARE, which, 0, 1, 0);
            refuses(NULL, Act.PUT, BARE, which, -1, 1, 0);
            refuses(INDEX, Act.PUT, LAST, which, 1, 1, 0);
            refuses(INDEX, Act.PUT, LAST, which, -1, 1, 0);
        }
        for (int[] item : ITEMS_AT_THE_EDGE) {
            allows(1, Act.PUT, item[0], item[1], item[2], 1, 0);
        }
        for (int[] item : NO_ITEMS_AT_THE_EDGE) {
            refuses(INDEX, Act.PUT, item[0], item[1], item[2], 1, 0);
        }
    }

    /** Station, row and item: the first and the last one of rows of 1, 4 and 24 items. */
    private static final int[][] ITEMS_AT_THE_EDGE = {
        {LAST, READINGS, 0}, {LAST, PERIODS, 0}, {LAST, WEIGHTS, 0}, {USUAL, READINGS, 0}, {USUAL, READINGS, 3},
        {USUAL, PERIODS, 2}, {SHARING, READINGS, 3}, {EMPTY, PERIODS, 0}, {EMPTY, PERIODS, 23}};

    /** The first ones on each side that are no items, of rows of 0, 1, 4 and 24 items. */
    private static final int[][] NO_ITEMS_AT_THE_EDGE = {
        {EMPTY, READINGS, 0}, {EMPTY, READINGS, -1}, {EMPTY, WEIGHTS, 0}, {EMPTY, WEIGHTS, -1}, {EMPTY, WEIGHTS, 1},
        {LAST, READINGS, 1}, {LAST, READINGS, -1}, {LAST, PERIODS, 1}, {LAST, WEIGHTS, -1}, {USUAL, READINGS, 4},
        {USUAL, READINGS, -1}, {USUAL, READINGS, MOST}, {USUAL, READINGS, LEAST}, {USUAL, PERIODS, 3},
        {USUAL, WEIGHTS, 1}, {SHARING, READINGS, 4}, {EMPTY, PERIODS, 24}, {EMPTY, PERIODS, -1},
        {EMPTY, PERIODS, MOST}, {EMPTY, PERIODS, LEAST}};

    /** "BAD; NULL; INDEX." */
    private static void promise7Get() {
        for (int s : NO_STATIONS) {
            refuses(BAD, Act.GET, s, READINGS, 0);
        }
        for (int which : NO_ROWS) {
            refuses(BAD, Act.GET, USUAL, which, 0);
            refuses(BAD, Act.GET, BARE, which, -1);
        }
        for (int which = READINGS; which <= WEIGHTS; which++) {
            refuses(NULL, Act.GET, BARE, which, 0);
            refuses(NULL, Act.GET, BARE, which, -1);
            refuses(NULL, Act.GET, BARE, which, 24);
        }
        for (int[] item : NO_ITEMS_AT_THE_EDGE) {
            refuses(INDEX, Act.GET, item[0], item[1], item[2]);
        }
        allows(bits(5.5f), Act.GET, USUAL, READINGS, 0);
        allows(bits(0f), Act.GET, USUAL, READINGS, 3);
        allows(bits(5.5f), Act.GET, SHARING, READINGS, 0);
        allows(bits(-0.0), Act.GET, USUAL, PERIODS, 2);
        allows(bits(3.0), Act.GET, EMPTY, PERIODS, 23);
        allows(bits(0.0), Act.GET, EMPTY, PERIODS, 0);
        allows(7, Act.GET, USUAL, WEIGHTS, 0);
        allows(0, Act.GET, 5, WEIGHTS, 0);
    }

    /** "BAD; NULL, INDEX of the first ROW, then of the second one." */
    private static void promise8Move() {
        for (int s : NO_STATIONS) {
            refuses(BAD, Act.MOVE, s, READINGS, 0, WEIGHTS, 0);
        }
        for (int which : NO_ROWS) {
            refuses(BAD, Act.MOVE, USUAL, which, 0, WEIGHTS, 0);
            refuses(BAD, Act.MOVE, USUAL, WEIGHTS, 0, which, 0);
            refuses(BAD, Act.MOVE, BARE, which, 0, WEIGHTS, 0);
            refuses(BAD, Act.MOVE, BARE, WEIGHTS, 0, which, 0);
            refuses(BAD, Act.MOVE, USUAL, READINGS, 4, which, 0);
            refuses(BAD, Act.MOVE, USUAL, which, 0, READINGS, 4);
        }
        for (int[] item : NO_ITEMS_AT_THE_EDGE) {
            refuses(INDEX, Act.MOVE, item[0], item[1], item[2], item[1], 0);
            // an empty row has no item to be moved from, so that the first one's refusal is seen there alone
            refuses(INDEX, Act.MOVE, item[0], item[1], 0, item[1], item[2]);
        }
        for (int which = READINGS; which <= WEIGHTS; which++) {
            refuses(NULL, Act.MOVE, BARE, which, 0, which, 0);
            refuses(INDEX, Act.MOVE, USUAL, which, 0, READINGS, 4);
            refuses(INDEX, Act.MOVE, USUAL, which, 0, PERIODS, -1);
            refuses(INDEX, Act.MOVE, USUAL, which, 0, WEIGHTS, 1);
            allows(1, Act.MOVE, USUAL, which, 0, READINGS, 3);
            allows(1, Act.MOVE, USUAL, which, 0, PERIODS, 2);
            allows(1, Act.MOVE, USUAL, which, 0, WEIGHTS, 0);
            allows(1, Act.MOVE, 5, which, 0, which, 0);
        }
        allows(1, Act.MOVE, EMPTY, PERIODS, 23, PERIODS, 0);
        allows(1, Act.MOVE, EMPTY, PERIODS, 0, PERIODS, 23);
    }

    /** The same sentence: the first ROW is asked for all that it lacks before the second one is looked at. */
    private static void promise8MoveInOrder() {
        refuses(NULL, Act.MOVE, SHARING, PERIODS, 0, READINGS, 0);
        refuses(NULL, Act.MOVE, SHARING, PERIODS, -1, READINGS, 0);
        refuses(NULL, Act.MOVE, SHARING, PERIODS, 0, READINGS, 4);
        refuses(NULL, Act.MOVE, SHARING, PERIODS, -1, READINGS, -1);
        refuses(NULL, Act.MOVE, SHARING, PERIODS, 0, WEIGHTS, 0);
        refuses(NULL, Act.MOVE, SHARING, READINGS, 0, PERIODS, 0);
        refuses(NULL, Act.MOVE, SHARING, READINGS, 0, PERIODS, -1);
        refuses(INDEX, Act.MOVE, SHARING, READINGS, 4, PERIODS, 0);
        refuses(INDEX, Act.MOVE, SHARING, READINGS, -1, WEIGHTS, 0);
        refuses(INDEX, Act.MOVE, SHARING, READINGS, -1, PERIODS, -1);
        refuses(INDEX, Act.MOVE, EMPTY, READINGS, 0, PERIODS, 0);
        refuses(INDEX, Act.MOVE, EMPTY, PERIODS, 0, READINGS, 0);
    }

    /** The refusals that rest and step have alike. */
    private static void restOrStep(Act act) {
        for (int s : NO_STATIONS) {
            refuses(BAD, act, s, 0, 0);
        }
        refuses(NULL, act, BARE, 0, 0);
        refuses(NULL, act, BARE, -1, 24);
        refuses(NULL, act, RACK_ALONE, 0, 0);
        refuses(INDEX, act, EMPTY, 0, 0);
        refuses(INDEX, act, EMPTY, -1, -1);
        for (int i : new int[] {-1, 4, LEAST, MOST}) {
            refuses(INDEX, act, USUAL, i, 0);
            refuses(INDEX, act, USUAL, 0, i);
            refuses(INDEX, act, SHARING, i, 0);
            refuses(INDEX, act, USUAL, i, i);
            // by 0, by -0 and of an endless one: the other is missed first
            refuses(INDEX, act, USUAL, i, 3);
            refuses(INDEX, act, USUAL, i, 1);
            refuses(INDEX, act, USUAL, 2, i);
        }
        refuses(NONE, act, USUAL, 0, 3);
        refuses(NONE, act, USUAL, 0, 1);
        refuses(NONE, act, USUAL, 2, 0);
        refuses(NONE, act, USUAL, 2, 2);
        refuses(NONE, act, USUAL, 2, 1);
        refuses(NONE, act, USUAL, 1, 1);
        refuses(NONE, act, USUAL, 3, 3);
        refuses(NONE, act, SHARING, 0, 3);
        refuses(NONE, act, LAST, 0, 0);
    }

    /** "BAD; NULL; INDEX (i, then j); NONE." */
    private static void promise9Rest() {
        restOrStep(Act.REST);
        allows(bits(0f), Act.REST, USUAL, 0, 0);
        allows(bits(5.5f), Act.REST, USUAL, 0, 2);
        allows(bits(0f), Act.REST, USUAL, 3, 0);
        allows(bits(-0f), Act.REST, USUAL, 1, 0);
    }

    /** "BAD; NULL; INDEX; NONE." */
    private static void promise10Step() {
        restOrStep(Act.STEP);
        allows(1, Act.STEP, USUAL, 0, 0);
        allows(1, Act.STEP, USUAL, 0, 2);
        allows(1, Act.STEP, USUAL, 3, 0);
        allows(1, Act.STEP, USUAL, 1, 0);
    }

    /** "BAD; NULL; INDEX." */
    private static void promise11Whole() {
        for (int s : NO_STATIONS) {
            refuses(BAD, Act.WHOLE, s, 0);
        }
        refuses(NULL, Act.WHOLE, BARE, 0);
        refuses(NULL, Act.WHOLE, BARE, -1);
        refuses(INDEX, Act.WHOLE, EMPTY, 0);
        refuses(INDEX, Act.WHOLE, EMPTY, -1);
        for (int i : new int[] {-1, 4, LEAST, MOST}) {
            refuses(INDEX, Act.WHOLE, USUAL, i);
        }
        refuses(INDEX, Act.WHOLE, LAST, 1);
        allows(5, Act.WHOLE, USUAL, 0);
        allows(0, Act.WHOLE, USUAL, 3);
        allows(0, Act.WHOLE, LAST, 0);
        allows(Long.MAX_VALUE, Act.WHOLE, SHARING, 2);
    }

    /** "BAD; NULL; INDEX; NONE." with "p -160 .. 160" */
    private static void promise12Phase() {
        for (int s : NO_STATIONS) {
            refuses(BAD, Act.PHASE, s, 0, 1, 0);
        }
        for (int p : NO_POWERS) {
            refuses(BAD, Act.PHASE, USUAL, 0, 1, p);
            refuses(BAD, Act.PHASE, USUAL, 0, 0, p);
            refuses(BAD, Act.PHASE, USUAL, 3, 1, p);
            refuses(BAD, Act.PHASE, USUAL, 1, 1, p);
            refuses(BAD, Act.PHASE, BARE, 0, 1, p);
        }
        allows(bits(4.0), Act.PHASE, USUAL, 0, 1, 160);
        allows(bits(0x1p-160), Act.PHASE, USUAL, 0, 1, -160);
        refuses(NULL, Act.PHASE, BARE, 0, 1, 0);
        refuses(NULL, Act.PHASE, BARE, -1, 1, 0);
        refuses(NULL, Act.PHASE, SHARING, 0, 1, 0);
        for (int k : new int[] {-1, 3, LEAST, MOST}) {
            refuses(INDEX, Act.PHASE, USUAL, k, 1, 0);
        }
        refuses(INDEX, Act.PHASE, EMPTY, 24, 1, 0);
        refuses(INDEX, Act.PHASE, LAST, 1, 1, 0);
        refuses(NONE, Act.PHASE, USUAL, 1, 1, 0);
        refuses(NONE, Act.PHASE, USUAL, 2, 1, 0);
        refuses(NONE, Act.PHASE, USUAL, 1, 0, 0);
        refuses(NONE, Act.PHASE, USUAL, 2, 0, 0);
        refuses(NONE, Act.PHASE, EMPTY, 0, 1, 0);
        allows(bits(1.0), Act.PHASE, EMPTY, 23, 10, 0);
        allows(bits(1.0), Act.PHASE, 5, 0, 9, 0);
    }

    /** "BAD; NULL: PERIODS, or, where a wave needs it, WEIGHTS; INDEX: there are fewer WEIGHTS." */
    private static void promise13Tide() {
        for (int s : NO_STATIONS) {
            refuses(BAD, Act.TIDE, s, 1, 0);
        }
        for (int p : NO_POWERS) {
            refuses(BAD, Act.TIDE, USUAL, 1, p);
            refuses(BAD, Act.TIDE, USUAL, 0, p);
            refuses(BAD, Act.TIDE, BARE, 1, p);
            refuses(BAD, Act.TIDE, EMPTY, 1, p);
        }
        allows(bits(4 * 7.0), Act.TIDE, USUAL, 1, 160);
        allows(bits(0x7p-160), Act.TIDE, USUAL, 1, -160);
        refuses(NULL, Act.TIDE, BARE, 1, 0);
        refuses(NULL, Act.TIDE, SHARING, 1, 0);
        // the PERIODS 0 to 22 have no wave, and 23 finds no WEIGHT
        refuses(INDEX, Act.TIDE, EMPTY, 1, 0);
        // there are fewer WEIGHTS than PERIODS, but none that a wave needs is missing
        allows(bits(5 * 7.0), Act.TIDE, USUAL, 5, 0);
        allows(bits(0.0), Act.TIDE, 5, 1, 0);
    }

    /** "BAD." */
    private static void promise14Rack() {
        for (int s : NO_STATIONS) {
            refuses(BAD, Act.RACK, s, 0);
            refuses(BAD, Act.RACK, s, 1);
        }
        for (int narrow = 0; narrow < 2; narrow++) {
            allows(1, Act.RACK, 0, narrow);
            allows(1, Act.RACK, BARE, narrow);
            allows(1, Act.RACK, 5, narrow);
        }
    }

    /** "BAD; NULL; INDEX; STORE: a METER that is none of FLOAT in a NARROW RACK." */
    private static void promise15Hang() {
        for (int s : NO_STATIONS) {
            refuses(BAD, Act.HANG, s, 0, 0, 1);
        }
        for (int kind : new int[] {-1, 3, LEAST, MOST}) {
            refuses(BAD, Act.HANG, USUAL, 0, kind, 1);
            refuses(BAD, Act.HANG, EMPTY, 0, kind, 1);
            refuses(BAD, Act.HANG, USUAL, 4, kind, 1);
            refuses(BAD, Act.HANG, BARE, 0, kind, 1);
        }
        for (int s : new int[] {0, -1, 1001, LEAST, MOST}) {
            refuses(BAD, Act.HANG, USUAL, 0, 2, s);
            refuses(BAD, Act.HANG, EMPTY, 0, 2, s);
            refuses(BAD, Act.HANG, USUAL, 4, 2, s);
            refuses(BAD, Act.HANG, BARE, 0, 2, s);
            // of others s is not looked at
            allows(1, Act.HANG, USUAL, 1, 0, s);
            allows(1, Act.HANG, EMPTY, 0, 0, s);
            allows(1, Act.HANG, USUAL, 1, 1, s);
            refuses(STORE, Act.HANG, EMPTY, 0, 1, s);
            refuses(STORE, Act.HANG, RACK_ALONE, 3, 1, s);
            refuses(INDEX, Act.HANG, USUAL, 4, 1, s);
            refuses(NULL, Act.HANG, BARE, 0, 1, s);
        }
        for (int kind = 0; kind <= 2; kind++) {
            refuses(NULL, Act.HANG, BARE, 0, kind, 1);
            refuses(NULL, Act.HANG, SHARING, 4, kind, 1);
            for (int i : NO_PLACES) {
                refuses(INDEX, Act.HANG, USUAL, i, kind, 1);
                refuses(INDEX, Act.HANG, EMPTY, i, kind, 1);
            }
            allows(1, Act.HANG, USUAL, 0, kind, 1);
            allows(1, Act.HANG, USUAL, 3, kind, 1000);
            allows(1, Act.HANG, 5, 3, kind, 1);
        }
        for (int i = 0; i < 4; i++) {
            refuses(STORE, Act.HANG, EMPTY, i, 1, 1);
            allows(1, Act.HANG, EMPTY, i, 0, 1);
            allows(1, Act.HANG, EMPTY, i, 2, 1);
            allows(1, Act.HANG, EMPTY, i, 2, 1000);
        }
    }

    /** "BAD; NULL: the RACK; INDEX: PLACE; NULL: READINGS; INDEX: x; NULL: there is no METER." */
    private static void promise16Read() {
        for (int s : NO_STATIONS) {
            refuses(BAD, Act.READ, s, 0, 0);
        }
        refuses(NULL, Act.READ, SHARING, 0, 0);
        refuses(NULL, Act.READ, SHARING, 4, 0);
        refuses(NULL, Act.READ, SHARING, 0, 4);
        refuses(NULL, Act.READ, BARE, -1, -1);
        for (int i : NO_PLACES) {
            refuses(INDEX, Act.READ, USUAL, i, 0);
            refuses(INDEX, Act.READ, RACK_ALONE, i, 0);
            refuses(INDEX, Act.READ, EMPTY, i, 0);
        }
        refuses(NULL, Act.READ, RACK_ALONE, 0, 0);
        refuses(NULL, Act.READ, RACK_ALONE, 3, -1);
        for (int x : new int[] {-1, 4, LEAST, MOST}) {
            refuses(INDEX, Act.READ, USUAL, 0, x);
            refuses(INDEX, Act.READ, USUAL, 3, x);
            // nothing hangs at PLACE 2, and x is missed first
            refuses(INDEX, Act.READ, USUAL, 2, x);
        }
        refuses(INDEX, Act.READ, EMPTY, 0, 0);
        refuses(INDEX, Act.READ, EMPTY, 1, 0);
        refuses(INDEX, Act.READ, LAST, 0, 1);
        refuses(NULL, Act.READ, USUAL, 2, 0);
        refuses(NULL, Act.READ, USUAL, 2, 2);
        refuses(NULL, Act.READ, LAST, 3, 0);
        allows(5, Act.READ, USUAL, 0, 0);
        allows(5, Act.READ, USUAL, 1, 0);
        allows(0, Act.READ, USUAL, 3, 0);
        allows(0, Act.READ, USUAL, 0, 3);
        allows(MOST, Act.READ, USUAL, 3, 2);
    }

    /** "BAD; NULL: the RACK; INDEX; CAST: it is no FLOAT METER; NULL: nothing is there." */
    private static void promise17StepOf() {
        for (int s : NO_STATIONS) {
            refuses(BAD, Act.STEP_OF, s, 0);
        }
        refuses(NULL, Act.STEP_OF, BARE, 0);
        refuses(NULL, Act.STEP_OF, BARE, -1);
        refuses(NULL, Act.STEP_OF, SHARING, 4);
        for (int i : NO_PLACES) {
            refuses(INDEX, Act.STEP_OF, USUAL, i);
            refuses(INDEX, Act.STEP_OF, EMPTY, i);
            refuses(INDEX, Act.STEP_OF, RACK_ALONE, i);
        }
        refuses(CAST, Act.STEP_OF, USUAL, 0);
        refuses(NULL, Act.STEP_OF, USUAL, 2);
        refuses(NULL, Act.STEP_OF, RACK_ALONE, 0);
        refuses(NULL, Act.STEP_OF, RACK_ALONE, 3);
        refuses(NULL, Act.STEP_OF, LAST, 3);
        allows(64, Act.STEP_OF, USUAL, 1);
        allows(1000, Act.STEP_OF, USUAL, 3);
        allows(1, Act.STEP_OF, EMPTY, 0);
    }

    /** Calls of just one refusal each, in the order of COUNTED. */
    private static void refuseOnce(TideStation t, int reason) {
        switch (reason) {
            case NULL: t.size(BARE, READINGS); break;
            case INDEX: t.whole(EMPTY, 0); break;
            case SIZE: t.row(USUAL, READINGS, -1); break;
            case CAST: t.stepOf(USUAL, 0); break;
            case STORE: t.hang(EMPTY, 0, 1, 0); break;
            case NONE: t.rest(USUAL, 0, 3); break;
            default: t.row(USUAL, READINGS, 25); break;
        }
    }

    /** "refused by NULL (0), INDEX (1), SIZE (2), CAST (3), STORE (4), NONE (5). BAD. (No act.)" */
    private static void promise18Refused() {
        for (int what : new int[] {-1, 6, LEAST, MOST}) {
            TideStation t = furnished();
            due("refused(" + what + ")", t.refused(what), BAD);
            due("refused(" + what + ") is no act, why", t.why(), 0);
            for (int k = 0; k < 6; k++) {
                due("refused(" + what + ") is no act, " + k, t.refused(k), 0);
            }
            refuseOnce(t, SIZE);
            due("refused(" + what + ") again", t.refused(what), BAD);
            due("refused(" + what + ") again is no act, why", t.why(), SIZE);
            TideStation untouched = furnished();
            refuseOnce(untouched, SIZE);
            due("refused(" + what + ") changes nothing", sightOf(t).equals(sightOf(untouched)) ? 1 : 0, 1);
        }
        for (int reason = STORE; reason <= NONE; reason++) {
            TideStation t = furnished();
            for (int times = 1; times <= 3; times++) {
                refuseOnce(t, reason);
                for (int k = 0; k < 6; k++) {
                    due("refused(" + k + ") after " + reason, t.refused(k), COUNTED[k] == reason ? times : 0);
                }
            }
        }
        mostRefusals();
    }

    /** "An object is used for at most 512 calls after it has been made": 511 refusals are counted by the last. */
    private static void mostRefusals() {
        TideStation t = new TideStation();
        for (int calls = 0; calls < 511; calls++) {
            t.size(0, calls % 3);
        }
        due("refused(0) as the 512th call", t.refused(0), 511);
    }

    /** "Why the latest act was refused (BAD, NULL, INDEX, SIZE, CAST, STORE, NONE); 0: it was not. (No act.)" */
    private static void promise19Why() {
        for (int before = STORE; before <= NONE; before++) {
            for (int reason = STORE; reason <= NONE; reason++) {
                TideStation t = furnished();
                due("why of what was not refused", t.why(), 0);
                refuseOnce(t, before);
                refuseOnce(t, reason);
                due("why after " + before + " and " + reason, t.why(), reason);
                due("why is no act", t.why(), reason);
                List<Long> counts = new ArrayList<>();
                countsOf(t, counts);
                t.why();
                List<Long> again = new ArrayList<>();
                countsOf(t, again);
                due("why counts nothing", counts.equals(again) ? 1 : 0, 1);
                t.lose(BARE, READINGS);
                due("why after an act that was not refused", t.why(), 0);
            }
        }
        due("why of a new object", new TideStation().why(), 0);
    }
}
