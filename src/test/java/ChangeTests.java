import java.util.Arrays;
import java.util.Map;
import java.util.Set;
import java.util.TreeMap;
import java.util.TreeSet;

/**
 * What each call changes: just what its sentence says, of all that can be seen of the object; and nothing but
 * why() and one count, if it is refused. Each call is made on an object of its own, furnished alike.
 */
public final class ChangeTests {
    private static final int NONE = -1, BAD = -2, NULL = -3, INDEX = -4, SIZE = -5, CAST = -6, STORE = -7;
    /** The reasons in the order in which refused(0), refused(1), .. count them. */
    private static final int[] COUNTED = {NULL, INDEX, SIZE, CAST, STORE, NONE};
    private static final int READINGS = 0, PERIODS = 1, WEIGHTS = 2;
    private static final int STATIONS = 6, ROWS = 3, PLACES = 4;

    /** How many items the rows of each station have; -1 is MISSING, and the READINGS of 4 are those of 1. */
    private static final int[][] ITEMS = {{2, 2, 2}, {2, -1, 2}, {3, 2, 2}, {2, 2, 1}, {2, 2, 2}, {-1, -1, 2}};

    private static final Map<String, String> FURNISHED = sightOf(furnished());

    private static int wrong = 0;

    /** A call on an object. */
    private interface Call {
        long on(TideStation t);
    }

    public static void main(String[] args) {
        furnishedAsTold();
        rowsThatAreMadeAndLost();
        rowsThatAreShared();
        itemsThatAreSet();
        racksAndPlaces();
        callsThatOnlyAnswer();
        callsThatAreNoActs();
        refusedActsOnRows();
        refusedActsOnItems();
        refusedRests();
        refusedActsOnRacks();
        System.out.println(wrong == 0 ? "only what is told is changed" : wrong + " changes are not as told");
        if (wrong != 0) {
            System.exit(1);
        }
    }

    private static void due(String what, Object got, Object want) {
        if (!got.equals(want)) {
            wrong++;
            System.out.println(what + ": " + got + ", due is " + want);
        }
    }

    /** Item i of a row, as it is furnished: 1, 2, .. by 10 for each row and by 100 for each station. */
    private static int itemOf(int station, int which, int i) {
        // the last READING of station 2 and the last PERIOD of station 4 are 0, by which there is no rest
        boolean isZero = station == 2 && which == READINGS && i == 2 || station == 4 && which == PERIODS && i == 1;
        return isZero ? 0 : 100 * station + 10 * which + i + 1;
    }

    private static TideStation furnished() {
        TideStation t = new TideStation();
        for (int s = 0; s < STATIONS; s++) {
            for (int which = 0; which < ROWS; which++) {
                if (ITEMS[s][which] >= 0) {
                    t.row(s, which, ITEMS[s][which]);
                }
                for (int i = 0; i < ITEMS[s][which]; i++) {
                    t.put(s, which, i, itemOf(s, which, i), 0);
                }
            }
        }
        t.share(4, READINGS, 1);
        for (int s = 0; s < STATIONS - 1; s++) {
            boolean narrow = s % 2 == 1;
            t.rack(s, narrow);
            t.hang(s, 0, 2, 10 + s);
            t.hang(s, 1, 2, 20 + s);
            t.hang(s, 2, narrow ? 0 : 1, 0);
            t.hang(s, 3, 2, 30 + s);
        }
        refuseSome(t);
        return t;
    }

    /** One refusal by NULL, two by INDEX, .. and six by NONE, the latest. */
    private static void refuseSome(TideStation t) {
        for (int k = 0; k < COUNTED.length; k++) {
            for (int times = 0; times <= k; times++) {
                switch (COUNTED[k]) {
                    case NULL: t.size(5, READINGS); break;
                    case INDEX: t.whole(0, 2); break;
                    case SIZE: t.row(0, READINGS, -1); break;
                    case CAST: t.stepOf(0, 2); break;
                    case STORE: t.hang(1, 2, 1, 0); break;
                    default: t.rest(2, 0, 2); break;
                }
            }
        }
    }

    private static String told(int which, long bits) {
        if (which == READINGS) {
            return "" + Float.intBitsToFloat((int) bits);
        }
        return "" + (which == PERIODS ? Double.longBitsToDouble(bits) : (double) bits);
    }

    /**
     * All that can be seen of an object, by name. What it is made of (which racks are narrow, which rows are
     * shared) is seen by changing it, so that the object is of no use afterwards.
     */
    private static Map<String, String> sightOf(TideStation t) {
        Map<String, String> sight = new TreeMap<>();
        sight.put("why", "" + t.why());
        for (int what = 0; what < COUNTED.length; what++) {
            sight.put("refused " + what, "" + t.refused(what));
        }
        for (int s = 0; s < STATIONS; s++) {
            for (int which = 0; which < ROWS; which++) {
                int n = t.size(s, which);
                sight.put("size " + s + " " + which, "" + n);
                for (int i = 0; i < n; i++) {
                    sight.put("item " + s + " " + which + " " + i, told(which, t.get(s, which, i)));
                }
            }
            for (int i = 0; i < PLACES; i++) {
                sight.put("place " + s + " " + i, "" + t.stepOf(s, i));
            }
            sight.put("hang " + s, "" + t.hang(s, 3, 1, 0));
        }
        sharesOf(t, sight);
        return sight;
    }

    /** Each row's first item becomes 1000 and what it was furnished with: of one that is shared, the last one's. */
    private static void sharesOf(TideStation t, Map<String, String> sight) {
        for (int s = 0; s < STATIONS; s++) {
            for (int which = 0; which < ROWS; which++) {
                sight.put("put " + s + " " + which, "" + t.put(s, which, 0, 1000 + itemOf(s, which, 0), 0));
            }
        }
        for (int s = 0; s < STATIONS; s++) {
            for (int which = 0; which < ROWS; which++) {
                if (t.size(s, which) > 0) {
                    sight.put("first " + s + " " + which, told(which, t.get(s, which, 0)));
                }
            }
        }
    }

    private static Set<String> changesOf(TideStation t) {
        Map<String, String> sight = sightOf(t);
        Set<String> names = new TreeSet<>(FURNISHED.keySet());
        names.addAll(sight.keySet());
        Set<String> changes = new TreeSet<>();
        for (String name : names) {
            String now = sight.getOrDefault(name, "gone");
            if (!now.equals(FURNISHED.get(name))) {
                changes.add(name + " is " + now);
            }
        }
        return changes;
    }

    private static Set<String> allOf(String first, String... others) {
        Set<String> all = new TreeSet<>(Arrays.asList(others));
        all.add(first);
        return all;
    }

    /** An act that is not refused: why() tells 0 from now on, and no count is changed. */
    private static void changes(String what, Call act, long answer, String... told) {
        TideStation t = furnished();
        due(what + " answered", act.on(t), answer);
        due(what + " changed", changesOf(t), allOf("why is 0", told));
    }

    /** An act that is refused; answer is 0 where it might have answered any number. */
    private static void refuses(String what, Call act, long answer, int reason) {
        TideStation t = furnished();
        due(what + " answered", act.on(t), answer);
        // the latest refusal that furnished() leaves is by NONE
        Set<String> told = new TreeSet<>();
        if (reason != NONE) {
            told.add("why is " + reason);
        }
        for (int k = 0; k < COUNTED.length; k++) {
            if (COUNTED[k] == reason) {
                told.add("refused " + k + " is " + (k + 2));
            }
        }
        due(what + " changed", changesOf(t), told);
    }

    private static void refuses(String what, Call act, int reason) {
        refuses(what, act, reason, reason);
    }

    private static void furnishedAsTold() {
        due("why", FURNISHED.get("why"), "" + NONE);
        for (int k = 0; k < COUNTED.length; k++) {
            due("refused " + k, FURNISHED.get("refused " + k), "" + (k + 1));
        }
        due("a size", FURNISHED.get("size 2 0"), "3");
        due("what is missing", FURNISHED.get("size 5 1"), "" + NULL);
        due("an item", FURNISHED.get("item 3 1 1"), "312.0");
        due("a shared item", FURNISHED.get("item 4 0 1"), "102.0");
        due("a shared row", FURNISHED.get("first 1 0"), "1401.0");
        due("a row for itself", FURNISHED.get("first 2 1"), "1211.0");
        due("a float meter", FURNISHED.get("place 3 0"), "13");
        due("a meter", FURNISHED.get("place 4 2"), "" + CAST);
        due("nothing", FURNISHED.get("place 3 2"), "" + NULL);
        due("a wide rack", FURNISHED.get("hang 4"), "1");
        due("a narrow rack", FURNISHED.get("hang 3"), "" + STORE);
        due("no rack", FURNISHED.get("hang 5"), "" + NULL);
    }

    /** Promises 2 and 3. */
    private static void rowsThatAreMadeAndLost() {
        changes("a longer row", t -> t.row(2, WEIGHTS, 3), 1,
            "size 2 2 is 3", "item 2 2 0 is 0.0", "item 2 2 1 is 0.0", "item 2 2 2 is 0.0");
        changes("a shorter row", t -> t.row(0, PERIODS, 1), 1,
            "size 0 1 is 1", "item 0 1 0 is 0.0", "item 0 1 1 is gone");
        changes("a row of the same size", t -> t.row(3, READINGS, 2), 1, "item 3 0 0 is 0.0", "item 3 0 1 is 0.0");
        changes("a row where one was shared", t -> t.row(4, READINGS, 2), 1,
            "item 4 0 0 is 0.0", "item 4 0 1 is 0.0", "first 1 0 is 1101.0");
        changes("an empty row where none was", t -> t.row(5, PERIODS, 0), 1, "size 5 1 is 0", "put 5 1 is " + INDEX);
        changes("a row where none was", t -> t.row(5, READINGS, 1), 1,
            "size 5 0 is 1", "item 5 0 0 is 0.0", "put 5 0 is 1", "first 5 0 is 1501.0");
        changes("a row lost", t -> t.lose(2, PERIODS), 1,
            "size 2 1 is " + NULL, "item 2 1 0 is gone", "item 2 1 1 is gone", "put 2 1 is " + NULL, "first 2 1 is gone");
        changes("a shared row lost", t -> t.lose(4, READINGS), 1,
            "size 4 0 is " + NULL, "item 4 0 0 is gone", "item 4 0 1 is gone", "put 4 0 is " + NULL, "first 4 0 is gone",
            "first 1 0 is 1101.0");
        changes("a missing row lost", t -> t.lose(5, PERIODS), 0);
    }

    /** Promise 4. */
    private static void rowsThatAreShared() {
        changes("a row shared", t -> t.share(0, WEIGHTS, 3), 1,
            "size 0 2 is 1", "item 0 2 0 is 321.0", "item 0 2 1 is gone", "first 0 2 is 1321.0");
        changes("a row shared by three", t -> t.share(0, READINGS, 4), 1,
            "item 0 0 0 is 101.0", "item 0 0 1 is 102.0", "first 0 0 is 1401.0");
        changes("a row shared by one that missed it", t -> t.share(5, PERIODS, 2), 1,
            "size 5 1 is 2", "item 5 1 0 is 211.0", "item 5 1 1 is 212.0", "put 5 1 is 1", "first 5 1 is 1511.0",
            "first 2 1 is 1511.0");
        changes("a missing row shared", t -> t.share(2, PERIODS, 5), 1,
            "size 2 1 is " + NULL, "item 2 1 0 is gone", "item 2 1 1 is gone", "put 2 1 is " + NULL, "first 2 1 is gone");
        changes("a missing row shared by one that misses it", t -> t.share(5, READINGS, 5), 1);
        changes("a row shared with itself", t -> t.share(3, PERIODS, 3), 1);
        changes("a row shared again", t -> t.share(4, READINGS, 1), 1);
    }

    /** Promises 6, 8 and 10. */
    private static void itemsThatAreSet() {
        changes("put a reading", t -> t.put(0, READINGS, 1, -3, -1), 1, "item 0 0 1 is -1.5");
        changes("put a period", t -> t.put(3, PERIODS, 0, 1, 1), 1, "item 3 1 0 is 2.0");
        changes("put a weight", t -> t.put(5, WEIGHTS, 1, -9, 0), 1, "item 5 2 1 is -9.0");
        changes("put a shared reading", t -> t.put(4, READINGS, 1, 7, 0), 1, "item 4 0 1 is 7.0", "item 1 0 1 is 7.0");
        changes("move a reading", t -> t.move(2, READINGS, 1, WEIGHTS, 0), 1, "item 2 2 0 is 202.0");
        changes("move a period", t -> t.move(2, PERIODS, 0, READINGS, 2), 1, "item 2 0 2 is 211.0");
        changes("move a weight", t -> t.move(3, WEIGHTS, 0, PERIODS, 1), 1, "item 3 1 1 is 321.0");
        changes("move within a row", t -> t.move(5, WEIGHTS, 0, WEIGHTS, 1), 1, "item 5 2 1 is 521.0");
        changes("move onto itself", t -> t.move(0, PERIODS, 1, PERIODS, 1), 1);
        changes("move into a shared row", t -> t.move(1, WEIGHTS, 0, READINGS, 1), 1,
            "item 1 0 1 is 121.0", "item 4 0 1 is 121.0");
        changes("step", t -> t.step(3, 1, 0), 1, "item 3 0 1 is 301.0");
        changes("step of less", t -> t.step(3, 0, 1), 1, "item 3 0 0 is 0.0");
        changes("step by itself", t -> t.step(0, 1, 1), 1);
        changes("step in a shared row", t -> t.step(4, 1, 0), 1, "item 4 0 1 is 101.0", "item 1 0 1 is 101.0");
    }

    /** Promises 14 and 15. */
    private static void racksAndPlaces() {
        changes("a narrow rack for a wide one", t -> t.rack(0, true), 1, "place 0 0 is " + NULL,
            "place 0 1 is " + NULL, "place 0 2 is " + NULL, "place 0 3 is " + NULL, "hang 0 is " + STORE);
        changes("a wide rack for a narrow one", t -> t.rack(3, false), 1, "place 3 0 is " + NULL,
            "place 3 1 is " + NULL, "place 3 3 is " + NULL, "hang 3 is 1");
        changes("a narrow rack for a narrow one", t -> t.rack(1, true), 1, "place 1 0 is " + NULL,
            "place 1 1 is " + NULL, "place 1 3 is " + NULL);
        changes("a wide rack where none was", t -> t.rack(5, false), 1, "hang 5 is 1");
        changes("a narrow rack where none was", t -> t.rack(5, true), 1, "hang 5 is " + STORE);
        changes("nothing for a float meter", t -> t.hang(3, 0, 0, 5), 1, "place 3 0 is " + NULL);
        changes("nothing for a meter", t -> t.hang(4, 2, 0, 5), 1, "place 4 2 is " + NULL);
        changes("nothing for nothing", t -> t.hang(1, 2, 0, 5), 1);
        changes("a meter for a float meter", t -> t.hang(2, 3, 1, 5), 1, "place 2 3 is " + CAST);
        changes("a float meter for a meter", t -> t.hang(0, 2, 2, 5), 1, "place 0 2 is 5");
        changes("a float meter for nothing", t -> t.hang(3, 2, 2, 1000), 1, "place 3 2 is 1000");
        changes("a float meter for another", t -> t.hang(1, 1, 2, 1), 1, "place 1 1 is 1");
    }

    /** Promises 5, 7, 9, 11, 12, 13, 16 and 17. */
    private static void callsThatOnlyAnswer() {
        changes("size", t -> t.size(2, READINGS), 3);
        changes("get a reading", t -> t.get(0, READINGS, 1), Float.floatToRawIntBits(2f));
        changes("get a period", t -> t.get(3, PERIODS, 0), Double.doubleToRawLongBits(311.0));
        changes("get a weight", t -> t.get(5, WEIGHTS, 1), 522);
        changes("rest", t -> t.rest(4, 1, 0), Float.floatToRawIntBits(1f));
        changes("whole", t -> t.whole(2, 1), 202);
        changes("phase", t -> t.phase(3, 1, -313, 0), Double.doubleToRawLongBits(-1.0));
        // 1 of each period, by the weights 221 and 222
        changes("tide", t -> t.tide(2, -1, 0), Double.doubleToRawLongBits(443.0));
        // 12 / 64 goes 1077 times into 202, and that is 201.9375
        changes("read by a float meter", t -> t.read(2, 0, 1), 201);
        changes("read by a meter", t -> t.read(2, 2, 1), 202);
        changes("stepOf", t -> t.stepOf(4, 1), 24);
    }

    /** Promises 18 and 19: not even what why() tells. */
    private static void callsThatAreNoActs() {
        for (int what = -1; what <= 6; what++) {
            TideStation t = furnished();
            due("refused(" + what + ") answered", t.refused(what), what < 0 || what > 5 ? BAD : what + 1);
            due("refused(" + what + ") changed", changesOf(t), Set.of());
        }
        TideStation t = furnished();
        due("why() answered", t.why(), NONE);
        due("why() changed", changesOf(t), Set.of());
    }

    private static void refusedActsOnRows() {
        refuses("row of -1", t -> t.row(3, PERIODS, -1), SIZE);
        refuses("row of -1, shared", t -> t.row(4, READINGS, -1), SIZE);
        refuses("row of 25", t -> t.row(3, PERIODS, 25), BAD);
        refuses("row of station 6", t -> t.row(6, PERIODS, 1), BAD);
        refuses("lose of station 6", t -> t.lose(6, PERIODS), BAD);
        refuses("lose of row 3", t -> t.lose(2, 3), BAD);
        refuses("share with station 6", t -> t.share(0, PERIODS, 6), BAD);
        refuses("share of row 3", t -> t.share(0, 3, 1), BAD);
        refuses("size of what is missing", t -> t.size(1, PERIODS), NULL);
        refuses("size of row -1", t -> t.size(5, -1), BAD);
    }

    private static void refusedActsOnItems() {
        refuses("put into what is missing", t -> t.put(1, PERIODS, 0, 1, 0), NULL);
        refuses("put beyond the last", t -> t.put(3, WEIGHTS, 1, 1, 0), INDEX);
        refuses("put by 2 to the 161", t -> t.put(3, WEIGHTS, 0, 1, 161), BAD);
        refuses("get of what is missing", t -> t.get(1, PERIODS, 0), 0, NULL);
        refuses("get beyond the last", t -> t.get(2, READINGS, 3), 0, INDEX);
        refuses("get of row 3", t -> t.get(2, 3, 0), 0, BAD);
        refuses("move from what is missing", t -> t.move(1, PERIODS, 0, WEIGHTS, 0), NULL);
        refuses("move to what is missing", t -> t.move(1, WEIGHTS, 0, PERIODS, 0), NULL);
        refuses("move from beyond the last", t -> t.move(3, WEIGHTS, 1, READINGS, 0), INDEX);
        refuses("move to beyond the last", t -> t.move(3, READINGS, 0, WEIGHTS, 1), INDEX);
        refuses("move to row 3", t -> t.move(3, READINGS, 0, 3, 0), BAD);
        refuses("whole of what is missing", t -> t.whole(5, 0), 0, NULL);
        refuses("whole beyond the last", t -> t.whole(0, 2), 0, INDEX);
        refuses("whole of station -1", t -> t.whole(-1, 0), 0, BAD);
        refuses("tide without PERIODS", t -> t.tide(1, 1, 0), 0, NULL);
        refuses("tide with fewer WEIGHTS", t -> t.tide(3, 1, 0), 0, INDEX);
        refuses("tide at 2 to the -161", t -> t.tide(0, 1, -161), 0, BAD);
    }

    private static void refusedRests() {
        refuses("rest of what is missing", t -> t.rest(5, 0, 0), 0, NULL);
        refuses("rest of beyond the last", t -> t.rest(2, 3, 2), 0, INDEX);
        refuses("rest by beyond the last", t -> t.rest(2, 0, 3), 0, INDEX);
        refuses("rest by 0", t -> t.rest(2, 0, 2), 0, NONE);
        refuses("rest of station 6", t -> t.rest(6, 0, 0), 0, BAD);
        refuses("step of what is missing", t -> t.step(5, 0, 0), NULL);
        refuses("step of beyond the last", t -> t.step(2, 3, 2), INDEX);
        refuses("step by beyond the last", t -> t.step(2, 0, 3), INDEX);
        refuses("step by 0", t -> t.step(2, 0, 2), NONE);
        refuses("step of station 6", t -> t.step(6, 0, 0), BAD);
        refuses("phase by what is missing", t -> t.phase(1, 0, 1, 0), 0, NULL);
        refuses("phase by beyond the last", t -> t.phase(2, 2, 1, 0), 0, INDEX);
        refuses("phase by 0", t -> t.phase(4, 1, 1, 0), 0, NONE);
        refuses("phase at 2 to the 161", t -> t.phase(2, 0, 1, 161), 0, BAD);
    }

    private static void refusedActsOnRacks() {
        refuses("rack of station 6", t -> t.rack(6, true), BAD);
        refuses("hang without a rack", t -> t.hang(5, 0, 2, 1), NULL);
        refuses("hang at place 4", t -> t.hang(3, 4, 2, 1), INDEX);
        refuses("hang a meter in a narrow rack", t -> t.hang(3, 0, 1, 1), STORE);
        refuses("hang of kind 3", t -> t.hang(0, 0, 3, 1), BAD);
        refuses("hang with a step of 1001", t -> t.hang(0, 0, 2, 1001), BAD);
        refuses("read without a rack", t -> t.read(5, 0, 0), 0, NULL);
        refuses("read at place 4", t -> t.read(3, 4, 0), 0, INDEX);
        refuses("read beyond the last", t -> t.read(3, 0, 2), 0, INDEX);
        refuses("read where nothing is", t -> t.read(3, 2, 0), 0, NULL);
        refuses("read of station 6", t -> t.read(6, 0, 0), 0, BAD);
        refuses("stepOf without a rack", t -> t.stepOf(5, 0), NULL);
        refuses("stepOf at place -1", t -> t.stepOf(3, -1), INDEX);
        refuses("stepOf a meter", t -> t.stepOf(2, 2), CAST);
        refuses("stepOf nothing", t -> t.stepOf(3, 2), NULL);
        refuses("stepOf of station 6", t -> t.stepOf(6, 0), BAD);
    }
}
