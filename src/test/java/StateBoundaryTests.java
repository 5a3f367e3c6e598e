/** Rows that are missing, empty, full and shared, and racks with nothing, one meter and all places taken. */
public final class StateBoundaryTests {
    private static final int NULL = -3, INDEX = -4, CAST = -6, STORE = -7;
    private static final int READINGS = 0, PERIODS = 1, WEIGHTS = 2;
    private static final int STATIONS = 6, ROWS = 3, FULL = 24, PLACES = 4;

    private static int wrong = 0;

    public static void main(String[] args) {
        rowsAreMissingAtFirst();
        racksAreMissingAtFirst();
        objectsAreApart();
        rowsHave0To24Items();
        aNewRowIsAllZero();
        anEmptyRowIsNotMissing();
        aFullRowHoldsEachItem();
        rowsOfStationsAreApart();
        aLostRowIsMissing();
        aSharedRowIsOneRow();
        aSharedRowIsSteppedAndMovedInto();
        sharingWhatIsMissing();
        sharingItself();
        sharingEmptyAndFull();
        sharingOneOfThree();
        aSharedRowOutlivesTheOther();
        aNewRowPartsFromTheShared();
        moveOntoItselfAndItsNeighbour();
        aRackHasNothingAtFirst();
        anotherRackHasNothing();
        placesAreApart();
        aPlaceGetsAnother();
        aNarrowRackTakesFloatMetersAlone();
        everyStepFrom1To1000();
        racksOfStationsAreApart();
        metersReadTheRowThatIsThere();
        fiveHundredAndTwelveCalls();
        theLastCallMayBeAnyCall();
        System.out.println(wrong == 0 ? "rows and racks are as told" : wrong + " answers are not as told");
        if (wrong != 0) {
            System.exit(1);
        }
    }

    private static void due(String what, long got, long want) {
        if (got != want) {
            wrong++;
            System.out.println(what + ": answered " + got + ", due is " + want);
        }
    }

    private static void dueMissing(String what, TideStation t, int station, int which) {
        due(what + ", size", t.size(station, which), NULL);
        due(what + ", why", t.why(), NULL);
    }

    /** The bits of a whole number in a row of its kind. */
    private static long bits(int which, int x) {
        if (which == READINGS) {
            return Float.floatToRawIntBits(x);
        }
        return which == PERIODS ? Double.doubleToRawLongBits(x) : x;
    }

    /** "each is MISSING (at first)", "All ROWS, RACKS are MISSING." */
    private static void rowsAreMissingAtFirst() {
        TideStation t = new TideStation();
        int missed = 0;
        for (int s = 0; s < STATIONS; s++) {
            for (int which = 0; which < ROWS; which++) {
                dueMissing("a new object", t, s, which);
                due("a new object, lose", t.lose(s, which), 0);
                due("a new object, lose, why", t.why(), 0);
                due("a new object, put", t.put(s, which, 0, 1, 0), NULL);
                due("a new object, get", t.get(s, which, 0), 0);
                due("a new object, get, why", t.why(), NULL);
                missed += 3;
            }
        }
        due("a new object, refused", t.refused(0), missed);
    }

    /** The same sentences. */
    private static void racksAreMissingAtFirst() {
        TideStation t = new TideStation();
        for (int s = 0; s < STATIONS; s++) {
            t.row(s, READINGS, 1);
            for (int i = 0; i < PLACES; i++) {
                due("no rack, hang", t.hang(s, i, 0, 0), NULL);
                due("no rack, stepOf", t.stepOf(s, i), NULL);
                due("no rack, read", t.read(s, i, 0), 0);
                due("no rack, read, why", t.why(), NULL);
            }
        }
        due("no rack, refused", t.refused(0), STATIONS * PLACES * 3);
    }

    /** A new object is new, whatever was done with others. */
    private static void objectsAreApart() {
        TideStation used = new TideStation();
        used.row(0, READINGS, FULL);
        used.rack(0, true);
        used.row(0, READINGS, -1);
        TideStation t = new TideStation();
        due("a second object, why", t.why(), 0);
        due("a second object, refused", t.refused(2), 0);
        dueMissing("a second object", t, 0, READINGS);
        due("a second object, rack", t.stepOf(0, 0), NULL);
        due("the first object, refused", used.refused(0), 0);
        due("the first object, why", used.why(), -5);
    }

    /** "or has 0 to 24 items, from 0 on" */
    private static void rowsHave0To24Items() {
        for (int which = 0; which < ROWS; which++) {
            TideStation t = new TideStation();
            for (int n = 0; n <= FULL; n++) {
                due("row of " + n, t.row(5, which, n), 1);
                due("size of " + n, t.size(5, which), n);
                due("item -1 of " + n, t.put(5, which, -1, 1, 0), INDEX);
                due("item " + n + " of " + n, t.put(5, which, n, 1, 0), INDEX);
                if (n > 0) {
                    due("item 0 of " + n, t.put(5, which, 0, 1, 0), 1);
                    due("item " + (n - 1) + " of " + n, t.put(5, which, n - 1, 1, 0), 1);
                }
            }
        }
    }

    /** "A new ROW of a STATION, all 0": also where there was another, and never -0. */
    private static void aNewRowIsAllZero() {
        for (int which = 0; which < ROWS; which++) {
            TideStation t = new TideStation();
            for (int round = 0; round < 2; round++) {
                due("a new row", t.row(0, which, FULL), 1);
                for (int i = 0; i < FULL; i++) {
                    due("item " + i + " of a new row", t.get(0, which, i), 0);
                    due("item " + i + " of a new row, why", t.why(), 0);
                    t.put(0, which, i, -7, 0);
                }
            }
            t.row(0, which, 1);
            due("a shorter row", t.size(0, which), 1);
            due("item 0 of a shorter row", t.get(0, which, 0), 0);
            t.row(0, which, 2);
            due("item 1 of a longer row", t.get(0, which, 1), 0);
        }
    }

    /** "MISSING .., or has 0 .. items": an empty row is there, and has no item. */
    private static void anEmptyRowIsNotMissing() {
        for (int which = 0; which < ROWS; which++) {
            TideStation t = new TideStation();
            t.row(0, which, 0);
            due("an empty row, size", t.size(0, which), 0);
            due("an empty row, why", t.why(), 0);
            due("an empty row, put", t.put(0, which, 0, 1, 0), INDEX);
            due("an empty row, get", t.get(0, which, 0), 0);
            due("an empty row, get, why", t.why(), INDEX);
            due("an empty row, lose", t.lose(0, which), 1);
            dueMissing("an empty row that is lost", t, 0, which);
        }
    }

    /** Each of the 24 items is its own. */
    private static void aFullRowHoldsEachItem() {
        for (int which = 0; which < ROWS; which++) {
            TideStation t = new TideStation();
            t.row(3, which, FULL);
            for (int i = 0; i < FULL; i++) {
                due("put " + i, t.put(3, which, i, 100 + i, 0), 1);
            }
            for (int i = 0; i < FULL; i++) {
                due("item " + i, t.get(3, which, i), bits(which, 100 + i));
            }
            for (int i = 0; i < FULL; i++) {
                due("move " + i, t.move(3, which, i, which, FULL - 1 - i), 1);
            }
            // the moves write the first half over the second one, and then that back
            for (int i = 0; i < FULL; i++) {
                due("mirrored " + i, t.get(3, which, i), bits(which, 100 + Math.min(i, FULL - 1 - i)));
            }
        }
    }

    /** "5 have three ROWS each": 18 rows that are apart. */
    private static void rowsOfStationsAreApart() {
        TideStation t = new TideStation();
        for (int s = 0; s < STATIONS; s++) {
            for (int which = 0; which < ROWS; which++) {
                t.row(s, which, 1 + s * ROWS + which);
                t.put(s, which, 0, 50 + s * ROWS + which, 0);
            }
        }
        for (int s = 0; s < STATIONS; s++) {
            for (int which = 0; which < ROWS; which++) {
                due("size of " + s + " " + which, t.size(s, which), 1 + s * ROWS + which);
                due("item of " + s + " " + which, t.get(s, which, 0), bits(which, 50 + s * ROWS + which));
            }
        }
    }

    /** "A ROW is MISSING from now on: 1; 0: it was." */
    private static void aLostRowIsMissing() {
        for (int which = 0; which < ROWS; which++) {
            TideStation t = new TideStation();
            for (int k = 0; k < ROWS; k++) {
                t.row(0, k, 2);
            }
            due("lose", t.lose(0, which), 1);
            due("lose, why", t.why(), 0);
            dueMissing("lost", t, 0, which);
            due("lose again", t.lose(0, which), 0);
            due("lose again, why", t.why(), 0);
            for (int k = 0; k < ROWS; k++) {
                due("beside the lost one", t.size(0, k), k == which ? NULL : 2);
            }
            t.row(0, which, 1);
            due("there again", t.lose(0, which), 1);
        }
    }

    /** "A ROW of a STATION is a ROW of another one, too" */
    private static void aSharedRowIsOneRow() {
        for (int which = 0; which < ROWS; which++) {
            TideStation t = new TideStation();
            t.row(0, which, 2);
            t.put(0, which, 1, 9, 0);
            t.row(5, which, 1);
            due("share", t.share(5, which, 0), 1);
            due("share, why", t.why(), 0);
            due("size of the shared", t.size(5, which), 2);
            due("item of the shared", t.get(5, which, 1), bits(which, 9));
            t.put(5, which, 0, 4, 0);
            due("put by the one", t.get(0, which, 0), bits(which, 4));
            t.put(0, which, 0, 6, 0);
            due("put by the other", t.get(5, which, 0), bits(which, 6));
        }
    }

    /** The same sentence, by the other acts that change a row. */
    private static void aSharedRowIsSteppedAndMovedInto() {
        TideStation t = new TideStation();
        t.row(0, READINGS, 2);
        t.row(0, WEIGHTS, 1);
        t.share(1, READINGS, 0);
        t.put(0, READINGS, 0, 7, 0);
        t.put(0, READINGS, 1, 4, 0);
        due("step by the one", t.step(1, 0, 1), 1);
        due("stepped for the other", t.get(0, READINGS, 0), bits(READINGS, 4));
        t.put(0, WEIGHTS, 0, 11, 0);
        due("move by the other", t.move(0, WEIGHTS, 0, READINGS, 1), 1);
        due("moved for the one", t.get(1, READINGS, 1), bits(READINGS, 11));
        due("whole by the one", t.whole(1, 1), 11);
    }

    /** "(MISSING, if that is): 1" */
    private static void sharingWhatIsMissing() {
        for (int which = 0; which < ROWS; which++) {
            TideStation t = new TideStation();
            t.row(0, which, 3);
            due("share a missing one", t.share(0, which, 5), 1);
            due("share a missing one, why", t.why(), 0);
            dueMissing("shared, missing", t, 0, which);
            due("share it again", t.share(0, which, 5), 1);
            t.row(5, which, 1);
            // there was no row to be shared, so that the new one is not shared either
            dueMissing("a row made later", t, 0, which);
            due("refused", t.refused(0), 2);
        }
    }

    /** A STATION may be its own other one. */
    private static void sharingItself() {
        TideStation t = new TideStation();
        t.row(2, PERIODS, 3);
        t.put(2, PERIODS, 2, 8, 0);
        due("share with itself", t.share(2, PERIODS, 2), 1);
        due("size after", t.size(2, PERIODS), 3);
        due("item after", t.get(2, PERIODS, 2), bits(PERIODS, 8));
        due("share missing with itself", t.share(2, WEIGHTS, 2), 1);
        dueMissing("still missing", t, 2, WEIGHTS);
    }

    /** The empty row and the full one are shared as any other. */
    private static void sharingEmptyAndFull() {
        for (int which = 0; which < ROWS; which++) {
            TideStation t = new TideStation();
            t.row(0, which, 0);
            t.row(1, which, FULL);
            t.share(2, which, 0);
            t.share(3, which, 1);
            due("an empty one, shared", t.size(2, which), 0);
            due("an empty one, shared, put", t.put(2, which, 0, 1, 0), INDEX);
            due("a full one, shared", t.size(3, which), FULL);
            t.put(3, which, FULL - 1, 5, 0);
            due("a full one, its last item", t.get(1, which, FULL - 1), bits(which, 5));
            due("a full one, beyond", t.put(3, which, FULL, 1, 0), INDEX);
        }
    }

    /** "A ROW": the two others of the STATION are not shared. */
    private static void sharingOneOfThree() {
        TideStation t = new TideStation();
        for (int which = 0; which < ROWS; which++) {
            t.row(0, which, 1);
            t.row(1, which, 2);
        }
        t.share(1, PERIODS, 0);
        due("READINGS stay", t.size(1, READINGS), 2);
        due("PERIODS are shared", t.size(1, PERIODS), 1);
        due("WEIGHTS stay", t.size(1, WEIGHTS), 2);
        due("the other's stay", t.size(0, READINGS), 1);
    }

    /** lose is of one STATION: the others that share the row keep it. */
    private static void aSharedRowOutlivesTheOther() {
        TideStation t = new TideStation();
        t.row(0, WEIGHTS, 2);
        t.put(0, WEIGHTS, 1, 9, 0);
        t.share(1, WEIGHTS, 0);
        t.share(2, WEIGHTS, 1);
        due("lose the first", t.lose(0, WEIGHTS), 1);
        dueMissing("the first", t, 0, WEIGHTS);
        due("the second", t.get(1, WEIGHTS, 1), 9);
        t.put(1, WEIGHTS, 1, 10, 0);
        due("the third", t.get(2, WEIGHTS, 1), 10);
        due("lose the second", t.lose(1, WEIGHTS), 1);
        due("the third still", t.get(2, WEIGHTS, 1), 10);
        due("share it back", t.share(0, WEIGHTS, 2), 1);
        due("the first again", t.get(0, WEIGHTS, 1), 10);
    }

    /** row makes a new ROW of one STATION: the others keep the old one, also one of the same size. */
    private static void aNewRowPartsFromTheShared() {
        TideStation t = new TideStation();
        t.row(0, READINGS, 2);
        t.put(0, READINGS, 0, 3, 0);
        t.share(1, READINGS, 0);
        t.row(0, READINGS, 2);
        due("the new one", t.get(0, READINGS, 0), 0);
        due("the old one", t.get(1, READINGS, 0), bits(READINGS, 3));
        t.put(0, READINGS, 1, 5, 0);
        due("they are apart", t.get(1, READINGS, 1), 0);
        due("refused row", t.row(1, READINGS, -1), -5);
        due("refused row keeps the old one", t.get(1, READINGS, 0), bits(READINGS, 3));
    }

    /** "Item i of a ROW becomes item j of a ROW of the same STATION": the same ROW, the same item, too. */
    private static void moveOntoItselfAndItsNeighbour() {
        for (int which = 0; which < ROWS; which++) {
            TideStation t = new TideStation();
            t.row(0, which, 2);
            t.row(1, which, 2);
            t.put(0, which, 0, -6, 0);
            due("move onto itself", t.move(0, which, 0, which, 0), 1);
            due("itself", t.get(0, which, 0), bits(which, -6));
            due("move to the last", t.move(0, which, 0, which, 1), 1);
            due("the first stays", t.get(0, which, 0), bits(which, -6));
            due("the last is it", t.get(0, which, 1), bits(which, -6));
            due("another STATION's is not", t.get(1, which, 1), 0);
        }
    }

    /** "has PLACES 0 .. 3 for METERS, nothing in them at first" */
    private static void aRackHasNothingAtFirst() {
        for (int s = 0; s < STATIONS; s++) {
            TideStation t = new TideStation();
            t.row(s, READINGS, 1);
            due("rack", t.rack(s, s % 2 == 0), 1);
            due("rack, why", t.why(), 0);
            for (int i = 0; i < PLACES; i++) {
                due("nothing at " + i, t.stepOf(s, i), NULL);
                due("read of nothing at " + i, t.read(s, i, 0), 0);
                due("read of nothing at " + i + ", why", t.why(), NULL);
                due("nothing for nothing at " + i, t.hang(s, i, 0, 0), 1);
            }
            due("no place -1", t.stepOf(s, -1), INDEX);
            due("no place 4", t.stepOf(s, PLACES), INDEX);
        }
    }

    /** "A STATION has another RACK, with nothing in it: 1." */
    private static void anotherRackHasNothing() {
        TideStation t = new TideStation();
        for (int round = 0; round < 4; round++) {
            boolean narrow = round % 2 == 1;
            due("another rack", t.rack(0, narrow), 1);
            for (int i = 0; i < PLACES; i++) {
                due("nothing in another rack", t.stepOf(0, i), NULL);
                due("a meter in another rack", t.hang(0, i, 1, 0), narrow ? STORE : 1);
                due("a float meter in another rack", t.hang(0, i, 2, 9), 1);
            }
        }
        due("a rack of the same kind", t.rack(0, true), 1);
        due("nothing in it", t.stepOf(0, 3), NULL);
    }

    /** Each of the four PLACES has its own METER. */
    private static void placesAreApart() {
        TideStation t = new TideStation();
        t.rack(4, false);
        t.hang(4, 0, 2, 1);
        t.hang(4, 1, 2, 1000);
        t.hang(4, 3, 1, 0);
        due("place 0", t.stepOf(4, 0), 1);
        due("place 1", t.stepOf(4, 1), 1000);
        due("place 2", t.stepOf(4, 2), NULL);
        due("place 3", t.stepOf(4, 3), CAST);
        t.hang(4, 0, 0, 0);
        due("place 0, emptied", t.stepOf(4, 0), NULL);
        due("place 1, beside it", t.stepOf(4, 1), 1000);
    }

    /** "PLACE i gets nothing (kind 0), a METER (1), a FLOAT METER with a STEP (2 ..)": whatever was there. */
    private static void aPlaceGetsAnother() {
        int[] told = {NULL, CAST, 17};
        for (int before = 0; before <= 2; before++) {
            for (int kind = 0; kind <= 2; kind++) {
                TideStation t = new TideStation();
                t.rack(0, false);
                due("hang", t.hang(0, 2, before, 500), 1);
                due("hang another", t.hang(0, 2, kind, 17), 1);
                due("hang " + kind + " over " + before, t.stepOf(0, 2), told[kind]);
            }
        }
    }

    /** "a NARROW one for FLOAT METERS alone (which are METERS)" */
    private static void aNarrowRackTakesFloatMetersAlone() {
        TideStation t = new TideStation();
        t.row(0, READINGS, 1);
        t.put(0, READINGS, 0, 100, 0);
        t.rack(0, true);
        for (int i = 0; i < PLACES; i++) {
            due("a meter in a narrow rack", t.hang(0, i, 1, 64), STORE);
            due("a meter in a narrow rack, why", t.why(), STORE);
            due("it does not hang", t.stepOf(0, i), NULL);
            due("a float meter in a narrow rack", t.hang(0, i, 2, 1000), 1);
            due("a meter over it", t.hang(0, i, 1, 64), STORE);
            due("it hangs still", t.stepOf(0, i), 1000);
            due("it reads still", t.read(0, i, 0), 93);
            due("nothing over it", t.hang(0, i, 0, 64), 1);
            due("it is gone", t.stepOf(0, i), NULL);
        }
        due("STORE", t.refused(4), 2 * PLACES);
        t.rack(1, false);
        due("a float meter in a wide rack", t.hang(1, 0, 2, 64), 1);
        due("a meter in a wide rack", t.hang(1, 1, 1, 64), 1);
    }

    /** "a STEP s (an int 1 .. 1000, in 64ths)" */
    private static void everyStepFrom1To1000() {
        TideStation t = new TideStation();
        for (int s = -1; s <= 1002; s++) {
            // an object is used for 512 calls at most
            if (s % 100 == -1 || s % 100 == 0) {
                t = new TideStation();
                t.rack(0, true);
            }
            boolean told = s >= 1 && s <= 1000;
            due("hang with a step of " + s, t.hang(0, 0, 2, s), told ? 1 : -2);
            due("hang with a step of " + s + ", why", t.why(), told ? 0 : -2);
            if (told) {
                due("stepOf " + s, t.stepOf(0, 0), s);
            }
        }
    }

    /** "A RACK of a STATION": each has its own. */
    private static void racksOfStationsAreApart() {
        TideStation t = new TideStation();
        for (int s = 0; s < STATIONS; s++) {
            t.rack(s, s % 2 == 1);
            t.hang(s, 3, 2, 1 + s);
        }
        for (int s = 0; s < STATIONS; s++) {
            due("step at station " + s, t.stepOf(s, 3), 1 + s);
            due("a meter at station " + s, t.hang(s, 0, 1, 0), s % 2 == 1 ? STORE : 1);
        }
        t.rack(0, false);
        due("station 0 has another", t.stepOf(0, 3), NULL);
        due("station 1 has not", t.stepOf(1, 3), 2);
    }

    /** "What the METER at PLACE i reads of READING x": of the READINGS that the STATION has then. */
    private static void metersReadTheRowThatIsThere() {
        TideStation t = new TideStation();
        t.rack(0, false);
        t.hang(0, 3, 1, 0);
        due("no READINGS", t.read(0, 3, 0), 0);
        due("no READINGS, why", t.why(), NULL);
        t.row(0, READINGS, FULL);
        t.put(0, READINGS, FULL - 1, -9, 0);
        due("the last READING", t.read(0, 3, FULL - 1), -9);
        due("a READING of 0", t.read(0, 3, 0), 0);
        due("a READING of 0, why", t.why(), 0);
        due("beyond the last", t.read(0, 3, FULL), 0);
        due("beyond the last, why", t.why(), INDEX);
        t.row(1, READINGS, 1);
        t.put(1, READINGS, 0, 12, 0);
        t.share(0, READINGS, 1);
        due("a shared READING", t.read(0, 3, 0), 12);
        t.row(0, READINGS, 0);
        due("no item", t.read(0, 3, 0), 0);
        due("no item, why", t.why(), INDEX);
    }

    /** "An object is used for at most 512 calls after it has been made": the last one is as good as the first. */
    private static void fiveHundredAndTwelveCalls() {
        TideStation t = new TideStation();
        for (int calls = 0; calls < 512; calls += 4) {
            int s = calls / 4 % STATIONS;
            int which = calls / 4 % ROWS;
            due("row, call " + calls, t.row(s, which, FULL), 1);
            due("put, call " + (calls + 1), t.put(s, which, FULL - 1, calls, 0), 1);
            due("rack, call " + (calls + 2), t.rack(s, false), 1);
            due("get, call " + (calls + 3), t.get(s, which, FULL - 1), bits(which, calls));
        }
    }

    /** The same sentence: the 512th call is answered, whichever it is, and whether those before were refused. */
    private static void theLastCallMayBeAnyCall() {
        long[] wants = {1, 1, 1, 2, 1, bits(READINGS, 7), 1, bits(READINGS, 1), 1, 7, bits(PERIODS, 4),
            bits(PERIODS, 12), 1, 1, 7, 64};
        for (int act = 0; act < wants.length; act++) {
            due("act " + act + " after calls that were refused", call(after511Calls(1), act), wants[act]);
            due("act " + act + " after calls that were not", call(after511Calls(0), act), wants[act]);
        }
        due("why() as the last call", after511Calls(1).why(), NULL);
        due("why() as the last call", after511Calls(0).why(), 0);
        due("refused(0) as the last call", after511Calls(1).refused(0), 502);
        due("refused(0) as the last call", after511Calls(0).refused(0), 0);
    }

    /** Station 0 with READINGS 7 and 2, a PERIOD of 10, a WEIGHT of 3 and a FLOAT METER; station 1 with nothing. */
    private static TideStation after511Calls(int stationAsked) {
        TideStation t = new TideStation();
        t.row(0, READINGS, 2);
        t.put(0, READINGS, 0, 7, 0);
        t.put(0, READINGS, 1, 2, 0);
        t.row(0, PERIODS, 1);
        t.put(0, PERIODS, 0, 10, 0);
        t.row(0, WEIGHTS, 1);
        t.put(0, WEIGHTS, 0, 3, 0);
        t.rack(0, false);
        t.hang(0, 0, 2, 64);
        for (int calls = 9; calls < 511; calls++) {
            t.size(stationAsked, READINGS);
        }
        return t;
    }

    private static long call(TideStation t, int act) {
        switch (act) {
            case 0: return t.row(5, WEIGHTS, FULL);
            case 1: return t.lose(0, WEIGHTS);
            case 2: return t.share(1, READINGS, 0);
            case 3: return t.size(0, READINGS);
            case 4: return t.put(0, WEIGHTS, 0, 1, 160);
            case 5: return t.get(0, READINGS, 0);
            case 6: return t.move(0, READINGS, 0, WEIGHTS, 0);
            case 7: return t.rest(0, 0, 1);
            case 8: return t.step(0, 0, 1);
            case 9: return t.whole(0, 0);
            case 10: return t.phase(0, 0, 14, 0);
            case 11: return t.tide(0, 14, 0);
            case 12: return t.rack(5, true);
            case 13: return t.hang(0, 3, 1, 0);
            case 14: return t.read(0, 0, 0);
            default: return t.stepOf(0, 0);
        }
    }
}
