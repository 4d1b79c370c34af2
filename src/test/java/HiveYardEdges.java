// Each sentence of the document that names a boundary case, by its own words: the smallest and the largest
// that it allows, what is empty, what is full, what wraps. What lies beyond is in HiveYardRefusals too, with
// a look at all that must not have changed.
public final class HiveYardEdges {
    private static final int NOTHING = -2;
    private static final int BAD = -1;
    private static final int NULL = -11;
    private static final int SIZE = -12;
    private static final int INDEX = -13;
    private static final int STORE = -14;
    private static final int CAST = -15;
    private static final int RAISED = -16;
    private static final long LONG_BAD = Long.MIN_VALUE;
    private static final long LONG_NULL = Long.MIN_VALUE + 100 - 10 - 1;
    private static final long LONG_INDEX = Long.MIN_VALUE + 100 - 10 - 3;
    private static final long LONG_CAST = Long.MIN_VALUE + 100 - 10 - 5;

    private static final int MAX = Integer.MAX_VALUE;
    private static final int MIN = Integer.MIN_VALUE;
    private static final int[] NUMBERS = {MIN, MIN + 1, -1, 0, 1, MAX - 1, MAX};
    // The number that set() gives, by sorts.
    private static final int[] GIVEN = {0, 0, 2, 4, 4, 5};

    private static String promise = "";
    private static String sentence = "";
    private static int wrong = 0;

    private static void due(String call, long got, long want) {
        if (got != want) {
            wrong++;
            System.out.println(promise + ", \"" + sentence + "\": " + call + " answered " + got + ", due is " + want);
        }
    }

    private static void says(String words, Runnable test) {
        sentence = words;
        test.run();
    }

    public static void main(String[] args) {
        terms();
        refusals();
        shelfPromises();
        hivePromises();
        slotPromises();
        workPromises();
        askPromises();
        System.out.println(wrong == 0 ? "all edges are as due" : wrong + " answers are not as due");
        if (wrong != 0) {
            System.exit(1);
        }
    }

    private static void terms() {
        promise = "Terms";
        says("An object is used for at most 512 calls after it has been made", HiveYardEdges::mostCalls);
        says("15 hold a THING each, or NOTHING (at first)", HiveYardEdges::allShelvesFull);
        says("one THING may be on several ones, and in HIVES", HiveYardEdges::oneThingEverywhere);
        says("All numbers are ints, that wrap.", HiveYardEdges::numbersWrap);
        says("1 BROOD (a FRAME, too; with EGGS, 0 at first)", HiveYardEdges::broodIsFrame);
        says("2 QUEEN (with LAYS, and AGE, 0 at first)", HiveYardEdges::queenAtFirst);
        says("3 SMOKER, 4 FEEDER (both are KEEPERS, with CARE)", HiveYardEdges::bothKeepers);
        says("7 NARROW HIVE (a HIVE, too)", HiveYardEdges::narrowIsHive);
        says("A HIVE has a ROW or none: SLOTS 0 .., each with a FRAME or NOTHING", HiveYardEdges::slotsOneByOne);
        says("(of a NARROW one with BROOD or NOTHING alone)", HiveYardEdges::narrowSlots);
        says("a COMB or none (at first)", HiveYardEdges::noCombAtFirst);
        says("LINES 0 .. of CELLS 0 .., all of one length, ints, 0 at first", HiveYardEdges::cellsOneByOne);
        says("a QUEEN, a KEEPER, an ALARM, or none of these (at first)", HiveYardEdges::noPartsAtFirst);
    }

    private static void refusals() {
        promise = "Refusals";
        says("A call answers -10 less the kind then", HiveYardEdges::kindsAsInts);
        says("NOTHING is no CAST", HiveYardEdges::nothingIsNoCast);
        says("a HIVE: CAST, where the SHELF has another THING; NULL: where it has NOTHING", HiveYardEdges::castOrNull);
    }

    private static void shelfPromises() {
        promise = "Promise 1";
        says("NOTHING on all SHELVES.", HiveYardEdges::newYard);
        promise = "Promise 2";
        says("A SHELF gets a new THING of a sort 0 .. 5", HiveYardEdges::setSorts);
        says("with its HONEY, LAYS, CARE, CODE", HiveYardEdges::setNumbers);
        says("gets a new THING", HiveYardEdges::setIsNew);
        promise = "Promise 3";
        says("with a ROW of n SLOTS without FRAMES: n. SIZE.", HiveYardEdges::hiveSizes);
        says("A SHELF gets a new HIVE, or a NARROW one", HiveYardEdges::hiveIsNew);
        promise = "Promise 4";
        says("A SHELF gets what another one holds: 1; 0: that is NOTHING.", HiveYardEdges::shareThings);
        promise = "Promise 5";
        says("A SHELF gets NOTHING: whether it had a THING.", HiveYardEdges::clearThings);
    }

    private static void hivePromises() {
        promise = "Promise 6";
        says("Part what = 0 QUEEN, 1 KEEPER, 2 ALARM of a HIVE", HiveYardEdges::giveParts);
        says("becomes the THING of another SHELF, or none: whether it is one.", HiveYardEdges::giveNone);
        promise = "Promise 7";
        says("A HIVE's ROW becomes a new one of n SLOTS without FRAMES: n.", HiveYardEdges::rowSizes);
        says("BAD: the SHELF; n is above 30.", HiveYardEdges::rowTooLarge);
        promise = "Promise 8";
        says("A HIVE has no ROW any more: how many SLOTS it had.", HiveYardEdges::stripSizes);
        promise = "Promise 9";
        says("A HIVE's COMB becomes a new one of n LINES with m CELLS: n.", HiveYardEdges::combSizes);
        says("BAD: the SHELF; n or m is above 12.", HiveYardEdges::combTooLarge);
    }

    private static void slotPromises() {
        promise = "Promise 10";
        says("SLOT i of a HIVE becomes the THING of another SHELF, or NOTHING: whether it is one.", HiveYardEdges::putThings);
        says("INDEX; STORE.", HiveYardEdges::putIndexes);
        promise = "Promise 11";
        says("A SHELF gets what stands in SLOT i of a HIVE, which has NOTHING then: whether it is a THING.", HiveYardEdges::takeThings);
        says("NULL (no HIVE; no ROW); INDEX.", HiveYardEdges::takeIndexes);
        promise = "Promise 12";
        says("HONEY of the FRAME in SLOT i becomes v more: it.", HiveYardEdges::honeyNumbers);
        says("The least long: BAD; of a REFUSAL 100 more than that, less 10, less the kind.", HiveYardEdges::kindsAsLongs);
    }

    private static void workPromises() {
        promise = "Promise 13";
        says("its EGGS become n * LAYS more, her AGE one more: EGGS", HiveYardEdges::layNumbers);
        says("The QUEEN of a HIVE lays n times in the BROOD in SLOT i", HiveYardEdges::laySlots);
        promise = "Promise 14";
        says("A SMOKER's CARE becomes n more: it.", HiveYardEdges::smokerNumbers);
        says("twice: and by its answer once more.", HiveYardEdges::tendTwice);
        says("HONEY of each FRAME in the ROW (as often as it stands there) becomes n more", HiveYardEdges::feederOften);
        says("how many SLOTS had one, and its CARE", HiveYardEdges::feederEmptyAndFull);
        says("a FEEDER: no ROW", HiveYardEdges::keepersWithoutRow);
        promise = "Promise 15";
        says("CELL c of LINE l of a HIVE's COMB becomes v: what it was", HiveYardEdges::cellNumbers);
        says("INDEX (LINE, CELL)", HiveYardEdges::cellIndexes);
        promise = "Promise 16";
        says("v goes of its HONEY, of those that have less nothing: all that went.", HiveYardEdges::harvestLess);
        says("From each FRAME in a HIVE's ROW, by SLOTS", HiveYardEdges::harvestBySlots);
        says("also v is below 1", HiveYardEdges::harvestSmallest);
        promise = "Promise 17";
        says("The ALARM of a HIVE is raised", HiveYardEdges::soundCodes);
    }

    private static void askPromises() {
        promise = "Promise 18";
        says("The sort of the THING on a SHELF; -2: NOTHING.", HiveYardEdges::sorts);
        promise = "Promise 19";
        says("6 SLOTS of the ROW, 7 LINES of the COMB (HIVE)", HiveYardEdges::toldSizes);
        says("BAD (also another what)", HiveYardEdges::toldWhats);
        promise = "Promise 20";
        says("Whether two SHELVES hold the same THING, or both NOTHING: 1, 0.", HiveYardEdges::sameThings);
        promise = "Promise 21";
        says("What = 0 REFUSALS by the machine so far, 1 to 6 those of that kind", HiveYardEdges::countKinds);
        says("7 CODE of the ALARM that was RAISED last (0 before)", HiveYardEdges::countCode);
    }

    // ---- yards

    private static HiveYard hiveWith(boolean narrow, int slots) {
        HiveYard x = new HiveYard();
        x.hive(0, narrow, slots);
        return x;
    }

    /** A HIVE on SHELF 0, with one SLOT for a THING of a sort, which is on SHELF 1 too. */
    private static HiveYard oneFrame(int sort, int honey) {
        HiveYard x = hiveWith(false, 1);
        x.set(1, sort, honey);
        x.put(0, 0, 1);
        return x;
    }

    /** A HIVE on SHELF 0 with BROOD (SHELF 1) in its SLOT and a QUEEN (SHELF 2). */
    private static HiveYard oneQueen(int lays) {
        HiveYard x = oneFrame(1, 0);
        x.set(2, 2, lays);
        x.give(0, 0, 2);
        return x;
    }

    /** A HIVE on SHELF 0 with a FRAME (SHELF 1) in its SLOT and a KEEPER (SHELF 2). */
    private static HiveYard oneKeeper(int sort, int care, int honey) {
        HiveYard x = oneFrame(0, honey);
        x.set(2, sort, care);
        x.give(0, 1, 2);
        return x;
    }

    /** A HIVE on SHELF 0 whose 30 SLOTS hold 30 FRAMES (or BROOD), of HONEY 100, 101 ... */
    private static HiveYard fullRow(boolean narrow) {
        HiveYard x = hiveWith(narrow, 30);
        for (int i = 0; i < 30; i++) {
            x.set(1, narrow ? 1 : 0, 100 + i);
            due("put into SLOT " + i, x.put(0, i, 1), 1);
        }
        return x;
    }

    // ---- Terms

    private static void mostCalls() {
        HiveYard x = new HiveYard();
        for (int n = 0; n < 511; n++) {
            due("refusal " + n, x.strip(15), NULL);
        }
        due("count(0) as the 512th call", x.count(0), 511);
        HiveYard combs = hiveWith(false, 0);
        for (int n = 0; n < 509; n++) {
            combs.comb(0, 12, 12);
        }
        combs.cell(0, 11, 11, 5);
        due("the 512th call", combs.cell(0, 11, 11, 6), 5);
    }

    private static void allShelvesFull() {
        HiveYard x = new HiveYard();
        for (int s = 0; s < 16; s++) {
            due("clear(" + s + ") at first", x.clear(s), 0);
        }
        for (int s = 0; s < 16; s++) {
            x.set(s, 0, 1000 + s);
        }
        for (int s = 0; s < 16; s++) {
            due("told(" + s + ", 0)", x.told(s, 0), 1000 + s);
        }
        due("set(16, 0, 1)", x.set(16, 0, 1), BAD);
        due("set(-1, 0, 1)", x.set(-1, 0, 1), BAD);
        due("told(0, 0)", x.told(0, 0), 1000);
        due("told(15, 0)", x.told(15, 0), 1015);
    }

    private static void oneThingEverywhere() {
        HiveYard x = new HiveYard();
        x.set(0, 1, 5);
        for (int s = 1; s < 14; s++) {
            x.share(s, 0);
        }
        x.hive(14, false, 30);
        x.hive(15, true, 30);
        for (int i = 0; i < 30; i++) {
            due("put(14, " + i + ", 0)", x.put(14, i, 0), 1);
            due("put(15, " + i + ", 13)", x.put(15, i, 13), 1);
        }
        due("honey(14, 29, 2)", x.honey(14, 29, 2), 7);
        due("honey(15, 0, 1)", x.honey(15, 0, 1), 8);
        for (int s = 0; s < 14; s++) {
            due("told(" + s + ", 0)", x.told(s, 0), 8);
            x.clear(s);
        }
        due("still in the HIVES", x.honey(14, 0, 1), 9);
        onePartInTwoHives();
    }

    private static void onePartInTwoHives() {
        HiveYard x = oneQueen(4);
        x.set(3, 3, 10);
        x.set(4, 5, 9);
        x.hive(5, true, 1);
        x.put(5, 0, 1);
        for (int h : new int[] {0, 5}) {
            due("give(" + h + ", 0, 2)", x.give(h, 0, 2), 1);
            due("give(" + h + ", 1, 3)", x.give(h, 1, 3), 1);
            due("give(" + h + ", 2, 4)", x.give(h, 2, 4), 1);
        }
        for (int s = 1; s < 5; s++) {
            x.share(s + 10, s);
            x.clear(s);
        }
        due("lay(0, 0, 1)", x.lay(0, 0, 1), 4);
        due("lay(5, 0, 1)", x.lay(5, 0, 1), 8);
        due("AGE", x.told(12, 3), 2);
        due("tend(0, 1, false)", x.tend(0, 1, false), 11);
        due("tend(5, 1, false)", x.tend(5, 1, false), 12);
        due("sound(0)", x.sound(0), RAISED);
        due("sound(5)", x.sound(5), RAISED);
        due("count(6)", x.count(6), 2);
    }

    private static void numbersWrap() {
        due("HONEY above the largest", oneFrame(0, MAX).honey(0, 0, 1), MIN);
        due("HONEY below the smallest", oneFrame(0, MIN).honey(0, 0, -1), MAX);
        due("EGGS: n * LAYS above the largest", oneQueen(2).lay(0, 0, 1 << 30), MIN);
        due("EGGS: n * LAYS twice around", oneQueen(4).lay(0, 0, 1 << 30), 0);
        due("EGGS: the smallest by -1", oneQueen(MIN).lay(0, 0, -1), MIN);
        HiveYard x = oneQueen(MAX);
        due("EGGS up to the largest", x.lay(0, 0, 1), MAX);
        x.set(2, 2, 1);
        x.give(0, 0, 2);
        due("EGGS above the largest", x.lay(0, 0, 1), MIN);
        due("EGGS below the smallest", x.lay(0, 0, -1), MAX);
        due("CARE of a SMOKER above", oneKeeper(3, MAX, 0).tend(0, 1, false), MIN);
        due("CARE of a SMOKER below", oneKeeper(3, MIN, 0).tend(0, -1, false), MAX);
        due("SLOTS and CARE of a FEEDER", oneKeeper(4, MAX, 0).tend(0, 1, false), MIN);
        HiveYard fed = oneKeeper(4, 0, MAX);
        fed.tend(0, 1, false);
        due("HONEY that a FEEDER gave", fed.told(1, 0), MIN);
        fed.tend(0, -1, false);
        due("HONEY that a FEEDER took", fed.told(1, 0), MAX);
        harvestWraps();
    }

    private static void harvestWraps() {
        int[] wants = {MAX, -2, MAX - 2, -4};
        for (int frames = 1; frames <= 4; frames++) {
            HiveYard x = hiveWith(false, frames);
            for (int i = 0; i < frames; i++) {
                x.set(1, 0, MAX);
                x.put(0, i, 1);
            }
            due("harvest of " + frames + " FRAMES", x.harvest(0, MAX), wants[frames - 1]);
            due("HONEY of the last", x.told(1, 0), 0);
        }
        HiveYard half = hiveWith(false, 2);
        half.set(1, 0, 1 << 30);
        half.put(0, 0, 1);
        half.set(1, 0, 1 << 30);
        half.put(0, 1, 1);
        due("harvest of twice 2 ^ 30", half.harvest(0, 1 << 30), MIN);
    }

    private static void broodIsFrame() {
        HiveYard x = oneFrame(1, 6);
        due("EGGS at first", x.told(1, 1), 0);
        due("HONEY of BROOD", x.told(1, 0), 6);
        due("honey() of BROOD", x.honey(0, 0, 1), 7);
        due("harvest() of BROOD", x.harvest(0, 7), 7);
        due("a FRAME has no EGGS", oneFrame(0, 6).told(1, 1), LONG_CAST);
    }

    private static void queenAtFirst() {
        HiveYard x = oneQueen(6);
        due("LAYS", x.told(2, 2), 6);
        due("AGE", x.told(2, 3), 0);
        x.lay(0, 0, 1);
        x.set(2, 2, 7);
        due("AGE of a new one", x.told(2, 3), 0);
    }

    private static void bothKeepers() {
        for (int sort = 0; sort < 6; sort++) {
            HiveYard x = hiveWith(false, 0);
            x.set(1, sort, 8);
            boolean keeper = sort == 3 || sort == 4;
            due("told CARE of sort " + sort, x.told(1, 4), keeper ? 8 : LONG_CAST);
            due("give a KEEPER of sort " + sort, x.give(0, 1, 1), keeper ? 1 : CAST);
        }
    }

    private static void narrowIsHive() {
        HiveYard x = hiveWith(true, 3);
        x.set(1, 2, 1);
        due("give", x.give(0, 0, 1), 1);
        due("comb", x.comb(0, 1, 1), 1);
        due("cell", x.cell(0, 0, 0, 1), 0);
        due("told SLOTS", x.told(0, 6), 3);
        due("told LINES", x.told(0, 7), 1);
        due("row", x.row(0, 2), 2);
        due("harvest", x.harvest(0, 1), 0);
        due("strip", x.strip(0), 2);
        due("count(0)", x.count(0), 0);
    }

    private static void slotsOneByOne() {
        for (boolean narrow : new boolean[] {false, true}) {
            HiveYard x = fullRow(narrow);
            for (int i = 0; i < 30; i++) {
                due("honey(0, " + i + ", 1000)", x.honey(0, i, 1000), 1100 + i);
            }
            due("honey(0, 30, 1)", x.honey(0, 30, 1), LONG_INDEX);
            due("honey(0, -1, 1)", x.honey(0, -1, 1), LONG_INDEX);
            for (int i = 0; i < 30; i += 2) {
                due("put(0, " + i + ", 2)", x.put(0, i, 2), 0);
            }
            for (int i = 0; i < 30; i++) {
                due("honey(0, " + i + ", 0)", x.honey(0, i, 0), i % 2 == 0 ? LONG_NULL : 1100 + i);
            }
        }
        due("none", hiveWith(false, 0).honey(0, 0, 1), LONG_INDEX);
    }

    private static void narrowSlots() {
        HiveYard x = hiveWith(true, 2);
        x.set(1, 0, 5);
        x.set(2, 1, 6);
        for (int i = 0; i < 2; i++) {
            due("a FRAME", x.put(0, i, 1), STORE);
            due("BROOD", x.put(0, i, 2), 1);
            due("a FRAME over BROOD", x.put(0, i, 1), STORE);
            due("BROOD stays", x.honey(0, i, 0), 6);
            due("NOTHING", x.put(0, i, 3), 0);
        }
        x.hive(4, false, 1);
        due("a HIVE that is not NARROW: a FRAME", x.put(4, 0, 1), 1);
        due("a HIVE that is not NARROW: BROOD", x.put(4, 0, 2), 1);
        due("count(4)", x.count(4), 4);
    }

    private static void noCombAtFirst() {
        for (boolean narrow : new boolean[] {false, true}) {
            HiveYard x = hiveWith(narrow, 1);
            due("LINES", x.told(0, 7), LONG_NULL);
            due("a CELL", x.cell(0, 0, 0, 1), LONG_NULL);
            x.comb(0, 0, 0);
            due("LINES of an empty COMB", x.told(0, 7), 0);
            due("a CELL of an empty COMB", x.cell(0, 0, 0, 1), LONG_INDEX);
        }
    }

    private static void cellsOneByOne() {
        HiveYard x = hiveWith(false, 0);
        x.comb(0, 12, 12);
        for (int pass = 0; pass < 3; pass++) {
            for (int l = 0; l < 12; l++) {
                for (int c = 0; c < 12; c++) {
                    int was = pass == 0 ? 0 : 1000 * pass + 12 * l + c;
                    int next = 1000 * (pass + 1) + 12 * l + c;
                    due("cell(0, " + l + ", " + c + ", " + next + ")", x.cell(0, l, c, next), was);
                }
            }
        }
        for (int n = 1; n <= 12; n += 11) {
            for (int m = 1; m <= 12; m += 11) {
                HiveYard y = hiveWith(true, 0);
                y.comb(0, n, m);
                for (int l = 0; l < n; l++) {
                    due("the last CELL of LINE " + l, y.cell(0, l, m - 1, 1), 0);
                    due("beyond the last CELL of LINE " + l, y.cell(0, l, m, 1), LONG_INDEX);
                    due("before the first CELL of LINE " + l, y.cell(0, l, -1, 1), LONG_INDEX);
                }
                due("beyond the last LINE", y.cell(0, n, 0, 1), LONG_INDEX);
            }
        }
    }

    private static void noPartsAtFirst() {
        for (boolean narrow : new boolean[] {false, true}) {
            HiveYard x = hiveWith(narrow, 1);
            x.set(1, 1, 1);
            x.put(0, 0, 1);
            due("no QUEEN", x.lay(0, 0, 1), LONG_NULL);
            due("no KEEPER", x.tend(0, 1, true), LONG_NULL);
            due("no ALARM", x.sound(0), NULL);
        }
    }

    // ---- Refusals

    private static void kindsAsInts() {
        HiveYard x = hiveWith(true, 1);
        x.set(1, 0, 1);
        x.set(2, 5, 1);
        x.give(0, 2, 2);
        due("1 NULL", x.strip(3), -11);
        due("2 SIZE", x.row(0, -1), -12);
        due("3 INDEX", x.put(0, 1, 1), -13);
        due("4 STORE", x.put(0, 0, 1), -14);
        due("5 CAST", x.strip(1), -15);
        due("6 RAISED", x.sound(0), -16);
        for (int kind = 1; kind <= 6; kind++) {
            due("count(" + kind + ")", x.count(kind), 1);
        }
        due("count(0)", x.count(0), 6);
    }

    private static void nothingIsNoCast() {
        HiveYard x = hiveWith(true, 1);
        due("put of NOTHING", x.put(0, 0, 5), 0);
        due("put where NOTHING is", x.put(5, 0, 5), NULL);
        for (int what = 0; what < 3; what++) {
            due("give NOTHING", x.give(0, what, 5), 0);
            due("give where NOTHING is", x.give(5, what, 5), NULL);
        }
        due("lay where NOTHING is", x.lay(0, 0, 1), LONG_NULL);
        for (int what = 0; what < 8; what++) {
            due("told(5, " + what + ")", x.told(5, what), LONG_NULL);
        }
        due("count(5)", x.count(5), 0);
    }

    private static void castOrNull() {
        for (int sort = -1; sort < 6; sort++) {
            HiveYard x = new HiveYard();
            x.set(3, sort, 1);
            int want = sort < 0 ? NULL : CAST;
            long wantLong = sort < 0 ? LONG_NULL : LONG_CAST;
            due("give", x.give(3, 0, 4), want);
            due("row", x.row(3, 1), want);
            due("strip", x.strip(3), want);
            due("comb", x.comb(3, 1, 1), want);
            due("put", x.put(3, 0, 4), want);
            due("take", x.take(3, 0, 4), want);
            due("sound", x.sound(3), want);
            due("honey", x.honey(3, 0, 1), wantLong);
            due("lay", x.lay(3, 0, 1), wantLong);
            due("tend", x.tend(3, 1, false), wantLong);
            due("cell", x.cell(3, 0, 0, 1), wantLong);
            due("harvest", x.harvest(3, 1), wantLong);
            due("told SLOTS", x.told(3, 6), wantLong);
            due("told LINES", x.told(3, 7), wantLong);
            due("count of the kind", x.count(sort < 0 ? 1 : 5), 14);
            due("count(0)", x.count(0), 14);
        }
    }

    // ---- Promises 1 to 5

    private static void newYard() {
        HiveYard x = new HiveYard();
        for (int s = 0; s < 16; s++) {
            due("sort(" + s + ")", x.sort(s), NOTHING);
            due("same(0, " + s + ")", x.same(0, s), 1);
        }
        for (int what = 0; what < 8; what++) {
            due("count(" + what + ")", x.count(what), 0);
        }
        x.hive(0, false, 1);
        x.set(15, 0, 1);
        x.strip(15);
        HiveYard y = new HiveYard();
        due("sort(0) of another object", y.sort(0), NOTHING);
        due("sort(15) of another object", y.sort(15), NOTHING);
        due("count(0) of another object", y.count(0), 0);
        due("sort(15) of the first one", x.sort(15), 0);
        due("count(0) of the first one", x.count(0), 1);
    }

    private static void setSorts() {
        HiveYard x = new HiveYard();
        for (int s : new int[] {0, 15}) {
            for (int sort = 0; sort < 6; sort++) {
                due("set(" + s + ", " + sort + ", 1)", x.set(s, sort, 1), sort);
                due("sort(" + s + ")", x.sort(s), sort);
            }
            for (int sort : new int[] {MIN, -2, -1, 6, 7, MAX}) {
                due("set(" + s + ", " + sort + ", 1)", x.set(s, sort, 1), BAD);
                due("sort(" + s + ")", x.sort(s), 5);
            }
        }
    }

    private static void setNumbers() {
        HiveYard x = new HiveYard();
        for (int v : NUMBERS) {
            for (int sort = 0; sort < 6; sort++) {
                x.set(sort, sort, v);
                due("the number of sort " + sort, x.told(sort, GIVEN[sort]), v);
            }
            due("EGGS", x.told(1, 1), 0);
            due("AGE", x.told(2, 3), 0);
        }
    }

    private static void setIsNew() {
        for (int sort = 0; sort < 6; sort++) {
            HiveYard x = new HiveYard();
            x.set(0, sort, 4);
            x.share(1, 0);
            x.set(0, sort, 4);
            due("same() of two of sort " + sort, x.same(0, 1), 0);
            x.set(0, sort, 5);
            due("the number of the first one", x.told(1, GIVEN[sort]), 4);
        }
    }

    private static void hiveSizes() {
        for (boolean narrow : new boolean[] {false, true}) {
            for (int n : new int[] {0, 1, 2, 29, 30}) {
                HiveYard x = new HiveYard();
                due("hive(15, " + narrow + ", " + n + ")", x.hive(15, narrow, n), n);
                due("SLOTS", x.told(15, 6), n);
                for (int i = 0; i < n; i++) {
                    due("SLOT " + i, x.honey(15, i, 1), LONG_NULL);
                }
                due("SLOT " + n, x.honey(15, n, 1), LONG_INDEX);
            }
            HiveYard x = new HiveYard();
            due("-1", x.hive(0, narrow, -1), SIZE);
            due("the smallest", x.hive(0, narrow, MIN), SIZE);
            due("31", x.hive(0, narrow, 31), BAD);
            due("the largest", x.hive(0, narrow, MAX), BAD);
            due("no SHELF, before SIZE", x.hive(16, narrow, -1), BAD);
            due("sort(0)", x.sort(0), NOTHING);
            due("count(2)", x.count(2), 2);
            due("count(0)", x.count(0), 2);
        }
    }

    private static void hiveIsNew() {
        HiveYard x = oneQueen(3);
        x.comb(0, 1, 1);
        x.share(5, 0);
        due("hive(0, true, 1)", x.hive(0, true, 1), 1);
        due("sort(0)", x.sort(0), 7);
        due("sort(5)", x.sort(5), 6);
        due("no COMB", x.told(0, 7), LONG_NULL);
        due("no FRAME", x.honey(0, 0, 1), LONG_NULL);
        x.put(0, 0, 1);
        due("no QUEEN", x.lay(0, 0, 1), LONG_NULL);
        due("the old HIVE's QUEEN", x.lay(5, 0, 1), 3);
        due("the old HIVE's COMB", x.told(5, 7), 1);
        due("hive(0, false, 1)", x.hive(0, false, 1), 1);
        due("sort(0)", x.sort(0), 6);
    }

    private static void shareThings() {
        HiveYard x = new HiveYard();
        x.hive(0, true, 2);
        due("share(15, 0)", x.share(15, 0), 1);
        due("share(15, 0) again", x.share(15, 0), 1);
        due("share(0, 0)", x.share(0, 0), 1);
        due("same(15, 0)", x.same(15, 0), 1);
        x.row(15, 9);
        due("SLOTS", x.told(0, 6), 9);
        due("share(15, 1)", x.share(15, 1), 0);
        due("sort(15)", x.sort(15), NOTHING);
        due("sort(0)", x.sort(0), 7);
        due("share(15, 1) again", x.share(15, 1), 0);
        due("share(1, 1)", x.share(1, 1), 0);
        for (int s : new int[] {MIN, -1, 16, MAX}) {
            due("share(" + s + ", 0)", x.share(s, 0), BAD);
            due("share(0, " + s + ")", x.share(0, s), BAD);
            due("share(" + s + ", " + s + ")", x.share(s, s), BAD);
        }
        due("sort(0)", x.sort(0), 7);
        due("count(0)", x.count(0), 0);
    }

    private static void clearThings() {
        for (int sort = 0; sort < 8; sort++) {
            HiveYard x = new HiveYard();
            x.set(15, sort, 1);
            if (sort > 5) {
                x.hive(15, sort == 7, 0);
            }
            x.share(0, 15);
            due("clear(15) of sort " + sort, x.clear(15), 1);
            due("sort(15)", x.sort(15), NOTHING);
            due("sort(0)", x.sort(0), sort);
            due("clear(15) again", x.clear(15), 0);
            due("clear(0)", x.clear(0), 1);
            due("clear(16)", x.clear(16), BAD);
            due("clear(-1)", x.clear(-1), BAD);
            due("count(0)", x.count(0), 0);
        }
    }

    // ---- Promises 6 to 9

    private static void giveParts() {
        for (boolean narrow : new boolean[] {false, true}) {
            for (int what = -1; what <= 3; what++) {
                for (int sort = 0; sort < 8; sort++) {
                    HiveYard x = hiveWith(narrow, 1);
                    x.set(15, sort, 1);
                    if (sort > 5) {
                        x.hive(15, sort == 7, 1);
                    }
                    boolean fits = what == 0 && sort == 2 || what == 1 && (sort == 3 || sort == 4) || what == 2 && sort == 5;
                    int want = what < 0 || what > 2 ? BAD : fits ? 1 : CAST;
                    due("give(0, " + what + ", 15), sort " + sort, x.give(0, what, 15), want);
                    due("count(5)", x.count(5), want == CAST ? 1 : 0);
                }
            }
        }
        HiveYard x = hiveWith(false, 1);
        due("the HIVE itself", x.give(0, 0, 0), CAST);
    }

    private static void giveNone() {
        HiveYard x = oneQueen(3);
        x.set(3, 3, 4);
        x.set(4, 5, 5);
        x.give(0, 1, 3);
        x.give(0, 2, 4);
        due("QUEEN to none", x.give(0, 0, 15), 0);
        due("KEEPER stays", x.tend(0, 1, false), 5);
        due("ALARM stays", x.sound(0), RAISED);
        due("no QUEEN", x.lay(0, 0, 1), LONG_NULL);
        due("KEEPER to none", x.give(0, 1, 15), 0);
        due("no KEEPER", x.tend(0, 1, false), LONG_NULL);
        due("ALARM stays", x.sound(0), RAISED);
        due("ALARM to none", x.give(0, 2, 15), 0);
        due("no ALARM", x.sound(0), NULL);
        due("none to none", x.give(0, 2, 15), 0);
        due("the QUEEN again", x.give(0, 0, 2), 1);
        due("lay", x.lay(0, 0, 1), 3);
        x.set(2, 2, 10);
        due("another QUEEN", x.give(0, 0, 2), 1);
        due("lay", x.lay(0, 0, 1), 13);
    }

    private static void rowSizes() {
        for (boolean narrow : new boolean[] {false, true}) {
            for (int n : new int[] {0, 1, 29, 30}) {
                HiveYard x = fullRow(narrow);
                due("row(0, " + n + ")", x.row(0, n), n);
                due("SLOTS", x.told(0, 6), n);
                for (int i = 0; i < n; i++) {
                    due("SLOT " + i, x.honey(0, i, 1), LONG_NULL);
                }
                due("SLOT " + n, x.put(0, n, 1), INDEX);
                due("HONEY of the FRAME that stood there", x.told(1, 0), 129);
                x.strip(0);
                due("row(0, " + n + ") where there is none", x.row(0, n), n);
                due("SLOTS", x.told(0, 6), n);
            }
        }
        HiveYard x = hiveWith(true, 1);
        x.set(1, 0, 1);
        x.row(0, 1);
        due("a NARROW one's new ROW", x.put(0, 0, 1), STORE);
        due("-1", x.row(0, -1), SIZE);
        due("the smallest", x.row(0, MIN), SIZE);
        due("-1 for another THING", x.row(1, -1), CAST);
        due("-1 for NOTHING", x.row(2, -1), SIZE);
        due("0 for NOTHING", x.row(2, 0), NULL);
    }

    private static void rowTooLarge() {
        HiveYard x = hiveWith(false, 4);
        due("row(0, 31)", x.row(0, 31), BAD);
        due("row(0, largest)", x.row(0, MAX), BAD);
        due("row(16, 1)", x.row(16, 1), BAD);
        due("row(-1, 1)", x.row(-1, 1), BAD);
        due("SLOTS", x.told(0, 6), 4);
        due("count(0)", x.count(0), 0);
    }

    private static void stripSizes() {
        for (boolean narrow : new boolean[] {false, true}) {
            for (int n : new int[] {0, 1, 29, 30}) {
                HiveYard x = hiveWith(narrow, n);
                due("strip(0) of " + n, x.strip(0), n);
                due("strip(0) again", x.strip(0), NULL);
                due("SLOTS", x.told(0, 6), LONG_NULL);
                due("put", x.put(0, 0, 1), NULL);
                due("take", x.take(0, 0, 1), NULL);
                due("harvest", x.harvest(0, 1), LONG_NULL);
                due("sort(0)", x.sort(0), narrow ? 7 : 6);
            }
        }
        due("a full ROW", fullRow(false).strip(0), 30);
    }

    private static void combSizes() {
        int[] sizes = {0, 1, 11, 12};
        for (int n : sizes) {
            for (int m : sizes) {
                HiveYard x = hiveWith(false, 1);
                x.comb(0, 2, 2);
                x.cell(0, 0, 0, 5);
                due("comb(0, " + n + ", " + m + ")", x.comb(0, n, m), n);
                due("LINES", x.told(0, 7), n);
                boolean some = n > 0 && m > 0;
                due("the first CELL", x.cell(0, 0, 0, 1), some ? 0 : LONG_INDEX);
                due("the last CELL", x.cell(0, n - 1, m - 1, 1), some ? n * m == 1 ? 1 : 0 : LONG_INDEX);
                due("beyond the last LINE", x.cell(0, n, 0, 1), LONG_INDEX);
                due("beyond the last CELL", x.cell(0, 0, m, 1), LONG_INDEX);
                due("SLOTS", x.told(0, 6), 1);
            }
        }
        HiveYard x = hiveWith(false, 1);
        int[][] below = {{-1, 0}, {0, -1}, {-1, 12}, {12, -1}, {-1, -1}, {MIN, 0}, {0, MIN}};
        for (int[] nm : below) {
            due("comb(0, " + nm[0] + ", " + nm[1] + ")", x.comb(0, nm[0], nm[1]), SIZE);
        }
        due("no COMB", x.told(0, 7), LONG_NULL);
        due("count(2)", x.count(2), below.length);
    }

    private static void combTooLarge() {
        HiveYard x = hiveWith(false, 1);
        x.comb(0, 3, 4);
        due("comb(0, 13, 12)", x.comb(0, 13, 12), BAD);
        due("comb(0, 12, 13)", x.comb(0, 12, 13), BAD);
        due("comb(0, 13, 0)", x.comb(0, 13, 0), BAD);
        due("comb(0, 0, 13)", x.comb(0, 0, 13), BAD);
        due("comb(0, largest, 1)", x.comb(0, MAX, 1), BAD);
        due("comb(0, 1, largest)", x.comb(0, 1, MAX), BAD);
        due("comb(16, 1, 1)", x.comb(16, 1, 1), BAD);
        due("LINES", x.told(0, 7), 3);
        due("the last CELL", x.cell(0, 2, 3, 1), 0);
        due("count(0)", x.count(0), 0);
    }

    // ---- Promises 10 to 12

    private static void putThings() {
        HiveYard x = hiveWith(false, 1);
        for (int sort = 0; sort < 6; sort++) {
            x.set(15, sort, 1);
            due("put(0, 0, 15) of sort " + sort, x.put(0, 0, 15), sort < 2 ? 1 : CAST);
        }
        due("the HIVE itself", x.put(0, 0, 0), CAST);
        due("what was put last", x.told(15, 5), 1);
        due("BROOD stays behind CASTS", x.honey(0, 0, 0), 1);
        due("NOTHING", x.put(0, 0, 14), 0);
        due("SLOT 0", x.honey(0, 0, 0), LONG_NULL);
        due("NOTHING over NOTHING", x.put(0, 0, 14), 0);
        x.set(15, 0, 3);
        due("a FRAME", x.put(0, 0, 15), 1);
        x.set(15, 0, 4);
        due("a FRAME over another", x.put(0, 0, 15), 1);
        due("SLOT 0", x.honey(0, 0, 0), 4);
        due("the FRAME stays on its SHELF", x.sort(15), 0);
    }

    private static void putIndexes() {
        for (int n : new int[] {0, 1, 30}) {
            HiveYard x = hiveWith(true, n);
            x.set(1, 0, 1);
            x.set(2, 1, 1);
            if (n > 0) {
                due("SLOT 0", x.put(0, 0, 2), 1);
                due("the last SLOT", x.put(0, n - 1, 2), 1);
                due("a FRAME in the last SLOT", x.put(0, n - 1, 1), STORE);
            }
            for (int i : new int[] {MIN, -1, n, MAX}) {
                due("put(0, " + i + ", 2)", x.put(0, i, 2), INDEX);
                due("put(0, " + i + ", 1), INDEX before STORE", x.put(0, i, 1), INDEX);
                due("put(0, " + i + ", 3)", x.put(0, i, 3), INDEX);
            }
            due("count(3)", x.count(3), 12);
        }
    }

    private static void takeThings() {
        for (boolean narrow : new boolean[] {false, true}) {
            HiveYard x = fullRow(narrow);
            for (int i = 29; i >= 0; i--) {
                due("take(0, " + i + ", 15)", x.take(0, i, 15), 1);
                due("HONEY of what was taken", x.told(15, 0), 100 + i);
                due("SLOT " + i, x.honey(0, i, 1), LONG_NULL);
            }
            due("NOTHING is taken", x.take(0, 0, 15), 0);
            due("sort(15)", x.sort(15), NOTHING);
            due("sort(1)", x.sort(1), narrow ? 1 : 0);
            due("NOTHING is taken over the last one", x.take(0, 29, 1), 0);
            due("sort(1)", x.sort(1), NOTHING);
            due("NOTHING onto the HIVE's own SHELF", x.take(0, 29, 0), 0);
            due("sort(0)", x.sort(0), NOTHING);
        }
        HiveYard x = oneFrame(0, 5);
        x.share(2, 0);
        due("onto the HIVE's own SHELF", x.take(0, 0, 0), 1);
        due("same(0, 1)", x.same(0, 1), 1);
        due("its SLOT", x.honey(2, 0, 1), LONG_NULL);
    }

    private static void takeIndexes() {
        for (int n : new int[] {0, 1, 30}) {
            HiveYard x = hiveWith(false, n);
            x.set(1, 0, 1);
            for (int i : new int[] {MIN, -1, n, MAX}) {
                due("take(0, " + i + ", 1)", x.take(0, i, 1), INDEX);
            }
            due("sort(1)", x.sort(1), 0);
            if (n > 0) {
                due("the last SLOT", x.take(0, n - 1, 2), 0);
            }
            x.strip(0);
            due("no ROW before INDEX", x.take(0, -1, 1), NULL);
            due("no HIVE before INDEX", x.take(2, -1, 1), NULL);
            due("CAST before INDEX", x.take(1, -1, 1), CAST);
            due("sort(1)", x.sort(1), 0);
        }
    }

    private static void honeyNumbers() {
        for (int had : NUMBERS) {
            for (int v : NUMBERS) {
                HiveYard x = oneFrame(0, had);
                due("honey(0, 0, " + v + ") of " + had, x.honey(0, 0, v), had + v);
                due("HONEY", x.told(1, 0), had + v);
            }
        }
    }

    private static void kindsAsLongs() {
        HiveYard x = oneFrame(0, 1);
        due("BAD", x.honey(16, 0, 1), -9223372036854775808L);
        due("NULL", x.honey(2, 0, 1), -9223372036854775719L);
        due("INDEX", x.honey(0, 1, 1), -9223372036854775721L);
        due("CAST", x.honey(1, 0, 1), -9223372036854775723L);
        due("lay: CAST", x.lay(0, 0, 1), -9223372036854775723L);
        due("tend: NULL", x.tend(0, 1, false), -9223372036854775719L);
        due("cell: NULL", x.cell(0, 0, 0, 1), -9223372036854775719L);
        due("harvest: NULL", x.harvest(2, 1), -9223372036854775719L);
        due("told: NULL", x.told(2, 0), -9223372036854775719L);
        due("count(0)", x.count(0), 8);
    }

    // ---- Promises 13 to 17

    private static void layNumbers() {
        for (int lays : NUMBERS) {
            HiveYard x = oneQueen(lays);
            int eggs = 0;
            int age = 0;
            for (int n : NUMBERS) {
                eggs += n * lays;
                due("lay(0, 0, " + n + ") of " + lays, x.lay(0, 0, n), eggs);
                due("AGE", x.told(2, 3), ++age);
                due("EGGS", x.told(1, 1), eggs);
                due("LAYS", x.told(2, 2), lays);
                due("HONEY", x.told(1, 0), 0);
            }
        }
    }

    private static void laySlots() {
        HiveYard x = fullRow(true);
        x.set(2, 2, 3);
        x.give(0, 0, 2);
        for (int i = 0; i < 30; i++) {
            due("lay(0, " + i + ", 2)", x.lay(0, i, 2), 6);
        }
        due("lay(0, 29, 1)", x.lay(0, 29, 1), 9);
        due("lay(0, 0, 1)", x.lay(0, 0, 1), 9);
        due("lay(0, 30, 1)", x.lay(0, 30, 1), LONG_INDEX);
        due("lay(0, -1, 1)", x.lay(0, -1, 1), LONG_INDEX);
        due("AGE", x.told(2, 3), 32);
        due("EGGS of the last", x.told(1, 1), 9);
        x.put(0, 0, 1);
        due("the same BROOD in two SLOTS", x.lay(0, 0, 1), 12);
        due("the same BROOD in two SLOTS", x.lay(0, 29, 1), 15);
    }

    private static void smokerNumbers() {
        for (int care : NUMBERS) {
            for (int n : NUMBERS) {
                HiveYard x = oneKeeper(3, care, 6);
                due("tend(0, " + n + ", false) of " + care, x.tend(0, n, false), care + n);
                due("CARE", x.told(2, 4), care + n);
                due("HONEY", x.told(1, 0), 6);
            }
        }
    }

    private static void tendTwice() {
        for (int care : NUMBERS) {
            for (int n : NUMBERS) {
                HiveYard x = oneKeeper(3, care, 6);
                due("a SMOKER: tend(0, " + n + ", true) of " + care, x.tend(0, n, true), 2 * (care + n));
                due("CARE of the SMOKER", x.told(2, 4), 2 * (care + n));
                HiveYard y = oneKeeper(4, care, 6);
                due("a FEEDER: tend(0, " + n + ", true) of " + care, y.tend(0, n, true), 1 + care);
                due("CARE of the FEEDER", y.told(2, 4), care);
                due("HONEY", y.told(1, 0), 6 + n + 1 + care);
            }
        }
    }

    private static void feederOften() {
        HiveYard x = hiveWith(false, 4);
        x.set(1, 0, 10);
        x.set(2, 1, 20);
        x.set(3, 4, 100);
        x.give(0, 1, 3);
        x.put(0, 0, 1);
        x.put(0, 1, 2);
        x.put(0, 3, 1);
        due("three SLOTS and CARE", x.tend(0, 5, false), 103);
        due("HONEY of what stands there twice", x.told(1, 0), 20);
        due("HONEY of what stands there once", x.told(2, 0), 25);
        due("by none", x.tend(0, 0, false), 103);
        due("by less", x.tend(0, -5, false), 103);
        due("HONEY", x.told(1, 0), 10);
        due("HONEY", x.told(2, 0), 20);
        due("twice", x.tend(0, 1, true), 103);
        due("HONEY by 1 and by 103, each twice", x.told(1, 0), 218);
        due("HONEY by 1 and by 103", x.told(2, 0), 124);
        due("EGGS", x.told(2, 1), 0);
    }

    private static void feederEmptyAndFull() {
        HiveYard x = fullRow(false);
        x.set(2, 4, -7);
        x.give(0, 1, 2);
        due("30 SLOTS", x.tend(0, 1, false), 23);
        due("HONEY of the first", x.honey(0, 0, 0), 101);
        due("HONEY of the last", x.honey(0, 29, 0), 130);
        x.put(0, 0, 15);
        due("29 SLOTS", x.tend(0, 1, false), 22);
        x.put(0, 29, 15);
        due("28 SLOTS", x.tend(0, 1, false), 21);
        x.row(0, 30);
        due("no FRAME in 30 SLOTS", x.tend(0, 1, true), -7);
        x.row(0, 0);
        due("no SLOTS", x.tend(0, 1, true), -7);
        due("CARE", x.told(2, 4), -7);
    }

    private static void keepersWithoutRow() {
        HiveYard smoked = oneKeeper(3, 5, 6);
        smoked.strip(0);
        due("a SMOKER", smoked.tend(0, 1, false), 6);
        due("a SMOKER twice", smoked.tend(0, 1, true), 14);
        HiveYard fed = oneKeeper(4, 5, 6);
        fed.strip(0);
        due("a FEEDER", fed.tend(0, 1, false), LONG_NULL);
        due("a FEEDER twice", fed.tend(0, 1, true), LONG_NULL);
        due("count(1)", fed.count(1), 2);
        due("HONEY", fed.told(1, 0), 6);
        due("CARE", fed.told(2, 4), 5);
    }

    private static void cellNumbers() {
        HiveYard x = hiveWith(false, 0);
        x.comb(0, 2, 2);
        int was = 0;
        for (int v : NUMBERS) {
            due("cell(0, 1, 1, " + v + ")", x.cell(0, 1, 1, v), was);
            was = v;
        }
        due("another CELL", x.cell(0, 1, 0, 1), 0);
        due("another LINE", x.cell(0, 0, 1, 1), 0);
        HiveYard y = hiveWith(false, 0);
        y.comb(0, 2, 2);
        y.share(1, 0);
        y.cell(0, 0, 0, 8);
        due("the same HIVE's COMB", y.cell(1, 0, 0, 9), 8);
    }

    private static void cellIndexes() {
        int[][] sizes = {{0, 0}, {0, 12}, {12, 0}, {1, 1}, {2, 3}, {3, 2}, {12, 1}, {1, 12}, {12, 12}};
        for (int[] nm : sizes) {
            HiveYard x = hiveWith(false, 0);
            x.comb(0, nm[0], nm[1]);
            for (int l : new int[] {MIN, -1, 0, nm[0] - 1, nm[0], MAX}) {
                for (int c : new int[] {MIN, -1, 0, nm[1] - 1, nm[1], MAX}) {
                    boolean there = l >= 0 && l < nm[0] && c >= 0 && c < nm[1];
                    due("cell(0, " + l + ", " + c + ", 0) of " + nm[0] + ", " + nm[1], x.cell(0, l, c, 0), there ? 0 : LONG_INDEX);
                }
            }
        }
    }

    private static void harvestLess() {
        int[][] hadAndWent = {{MIN, 0}, {-5, 0}, {0, 0}, {4, 0}, {5, 5}, {6, 5}, {MAX, 5}};
        for (int[] row : hadAndWent) {
            for (int sort = 0; sort < 2; sort++) {
                HiveYard x = oneFrame(sort, row[0]);
                due("harvest(0, 5) of " + row[0], x.harvest(0, 5), row[1]);
                due("HONEY", x.told(1, 0), row[0] - row[1]);
            }
        }
        due("the largest of less", oneFrame(0, MAX - 1).harvest(0, MAX), 0);
        due("the largest of as much", oneFrame(0, MAX).harvest(0, MAX), MAX);
        due("the largest of the smallest", oneFrame(0, MIN).harvest(0, MAX), 0);
        due("no SLOTS", hiveWith(false, 0).harvest(0, 1), 0);
        due("30 SLOTS without FRAMES", hiveWith(true, 30).harvest(0, 1), 0);
    }

    private static void harvestBySlots() {
        HiveYard full = fullRow(false);
        due("all 30", full.harvest(0, 100), 3000);
        due("29 of them", full.harvest(0, 1), 29);
        due("the last alone", full.harvest(0, 28), 28);
        due("none", full.harvest(0, 28), 0);
        HiveYard x = hiveWith(false, 3);
        x.set(1, 0, 5);
        for (int i = 0; i < 3; i++) {
            x.put(0, i, 1);
        }
        due("one FRAME in three SLOTS, enough for two", x.harvest(0, 2), 4);
        due("HONEY", x.told(1, 0), 1);
        due("enough for one", x.harvest(0, 1), 1);
        due("enough for none", x.harvest(0, 1), 0);
        x.honey(0, 0, 3);
        x.put(0, 1, 15);
        due("NOTHING between", x.harvest(0, 1), 2);
        due("HONEY", x.told(1, 0), 1);
    }

    private static void harvestSmallest() {
        HiveYard x = oneFrame(0, 2);
        due("v = 1", x.harvest(0, 1), 1);
        for (int v : new int[] {0, -1, MIN}) {
            due("v = " + v, x.harvest(0, v), LONG_BAD);
            due("of another THING", x.harvest(1, v), LONG_BAD);
            due("of NOTHING", x.harvest(2, v), LONG_BAD);
        }
        due("HONEY", x.told(1, 0), 1);
        due("count(0)", x.count(0), 0);
    }

    private static void soundCodes() {
        HiveYard x = hiveWith(true, 0);
        int raised = 0;
        for (int code : NUMBERS) {
            x.set(1, 5, code);
            due("no new ALARM before give()", x.count(6), raised);
            x.give(0, 2, 1);
            due("sound(0)", x.sound(0), RAISED);
            due("count(6)", x.count(6), ++raised);
            due("count(7)", x.count(7), code);
            due("CODE", x.told(1, 5), code);
        }
        x.strip(0);
        x.clear(1);
        due("without ROW, and off its SHELF", x.sound(0), RAISED);
    }

    // ---- Promises 18 to 21

    private static void sorts() {
        for (int s : new int[] {0, 15}) {
            HiveYard x = new HiveYard();
            due("NOTHING", x.sort(s), -2);
            for (int sort = 0; sort < 6; sort++) {
                x.set(s, sort, -2);
                due("sort(" + s + ")", x.sort(s), sort);
            }
            x.hive(s, false, 0);
            due("a HIVE", x.sort(s), 6);
            x.hive(s, true, 0);
            due("a NARROW HIVE", x.sort(s), 7);
            x.strip(s);
            due("without a ROW", x.sort(s), 7);
            x.clear(s);
            due("cleared", x.sort(s), -2);
            due("sort(-1)", x.sort(-1), BAD);
            due("sort(16)", x.sort(16), BAD);
            due("count(0)", x.count(0), 0);
        }
    }

    private static void toldSizes() {
        for (boolean narrow : new boolean[] {false, true}) {
            HiveYard x = new HiveYard();
            for (int n = 0; n <= 30; n++) {
                x.hive(0, narrow, n);
                due("SLOTS", x.told(0, 6), n);
                due("LINES", x.told(0, 7), LONG_NULL);
            }
            for (int n = 0; n <= 12; n++) {
                x.comb(0, n, 12 - n);
                due("LINES", x.told(0, 7), n);
                due("SLOTS", x.told(0, 6), 30);
            }
            x.strip(0);
            due("no ROW", x.told(0, 6), LONG_NULL);
            due("LINES without a ROW", x.told(0, 7), 12);
            due("count(1)", x.count(1), 32);
        }
    }

    private static void toldWhats() {
        int[][] has = {{0}, {0, 1}, {2, 3}, {4}, {4}, {5}};
        for (int sort = 0; sort < 6; sort++) {
            HiveYard x = new HiveYard();
            x.set(0, sort, 0);
            for (int what = 0; what < 8; what++) {
                boolean told = has[sort][0] == what || has[sort][has[sort].length - 1] == what;
                due("told(0, " + what + ") of sort " + sort, x.told(0, what), told ? 0 : LONG_CAST);
                due("told(1, " + what + ") of NOTHING", x.told(1, what), LONG_NULL);
            }
            int refused = x.count(0);
            for (int what : new int[] {MIN, -1, 8, MAX}) {
                due("told(0, " + what + ")", x.told(0, what), LONG_BAD);
                due("told(1, " + what + ")", x.told(1, what), LONG_BAD);
            }
            due("told(16, 0)", x.told(16, 0), LONG_BAD);
            due("told(-1, 0)", x.told(-1, 0), LONG_BAD);
            due("count(0) after BAD", x.count(0), refused);
        }
        HiveYard x = hiveWith(true, 0);
        for (int what = 0; what < 6; what++) {
            due("told(0, " + what + ") of a HIVE", x.told(0, what), LONG_CAST);
        }
    }

    private static void sameThings() {
        HiveYard x = new HiveYard();
        due("both NOTHING", x.same(0, 15), 1);
        due("one SHELF with NOTHING", x.same(15, 15), 1);
        x.set(0, 2, 5);
        due("a THING and NOTHING", x.same(0, 15), 0);
        due("NOTHING and a THING", x.same(15, 0), 0);
        due("one SHELF", x.same(0, 0), 1);
        x.set(15, 2, 5);
        due("alike", x.same(0, 15), 0);
        x.share(15, 0);
        due("the same", x.same(15, 0), 1);
        x.hive(0, false, 0);
        x.hive(15, false, 0);
        due("HIVES alike", x.same(0, 15), 0);
        for (int s : new int[] {MIN, -1, 16, MAX}) {
            due("same(" + s + ", 0)", x.same(s, 0), BAD);
            due("same(0, " + s + ")", x.same(0, s), BAD);
            due("same(" + s + ", " + s + ")", x.same(s, s), BAD);
        }
        due("count(0)", x.count(0), 0);
    }

    private static void countKinds() {
        HiveYard x = hiveWith(true, 1);
        x.set(1, 0, 1);
        x.set(2, 5, 1);
        x.give(0, 2, 2);
        // Each kind another number of times, so that no count can stand for another one.
        for (int kind = 1; kind <= 6; kind++) {
            for (int n = 0; n < 1 << kind - 1; n++) {
                refuse(x, kind);
            }
        }
        due("count(0)", x.count(0), 63);
        for (int kind = 1; kind <= 6; kind++) {
            due("count(" + kind + ")", x.count(kind), 1 << kind - 1);
        }
        for (int what : new int[] {MIN, -1, 8, MAX}) {
            due("count(" + what + ")", x.count(what), BAD);
        }
        due("count(0) after count()", x.count(0), 63);
    }

    private static void refuse(HiveYard x, int kind) {
        switch (kind) {
            case 1: x.told(5, 0); break;
            case 2: x.hive(1, false, -1); break;
            case 3: x.take(0, 1, 1); break;
            case 4: x.put(0, 0, 1); break;
            case 5: x.told(1, 1); break;
            default: x.sound(0); break;
        }
    }

    private static void countCode() {
        HiveYard x = hiveWith(false, 0);
        x.hive(1, false, 0);
        x.set(2, 5, 9);
        x.set(3, 5, 0);
        due("before", x.count(7), 0);
        x.give(0, 2, 2);
        x.give(1, 2, 3);
        due("before, with ALARMS", x.count(7), 0);
        x.sound(0);
        due("the first", x.count(7), 9);
        x.sound(5);
        x.sound(2);
        x.sound(16);
        due("after sounds that raised none", x.count(7), 9);
        x.sound(1);
        due("the second, of CODE 0", x.count(7), 0);
        x.sound(0);
        due("the first again", x.count(7), 9);
        x.give(0, 2, 15);
        x.clear(2);
        due("without that ALARM", x.count(7), 9);
    }
}
