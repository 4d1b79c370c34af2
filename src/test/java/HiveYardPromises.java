// Each promise of the document by itself: ordinary inputs, the edges that it names, wrong inputs.
public final class HiveYardPromises {
    private static final int NULL = -11;
    private static final int SIZE = -12;
    private static final int INDEX = -13;
    private static final int STORE = -14;
    private static final int CAST = -15;
    private static final int RAISED = -16;
    private static final int NOTHING = -2;
    private static final int BAD = -1;
    private static final long LONG_BAD = Long.MIN_VALUE;
    private static final long LONG_NULL = Long.MIN_VALUE + 89;
    private static final long LONG_INDEX = Long.MIN_VALUE + 87;
    private static final long LONG_CAST = Long.MIN_VALUE + 85;

    private static final int MAX = Integer.MAX_VALUE;
    private static final int MIN = Integer.MIN_VALUE;
    private static final int[] NO_SHELVES = {-1, 16, 17, MAX, MIN};

    // The shelves of yard().
    private static final int HIVE = 0;
    private static final int NARROW = 1;
    private static final int EMPTY = 2;
    private static final int FRAME = 5;
    private static final int BROOD = 6;
    private static final int QUEEN = 7;
    private static final int SMOKER = 8;
    private static final int FEEDER = 9;
    private static final int ALARM = 10;
    private static final int[] NO_HIVES = {FRAME, BROOD, QUEEN, SMOKER, FEEDER, ALARM};

    private static int promise = 0;
    private static int wrong = 0;

    private static void due(String call, long got, long want) {
        if (got != want) {
            wrong++;
            System.out.println("promise " + promise + ": " + call + " answered " + got + ", due is " + want);
        }
    }

    public static void main(String[] args) {
        promise = 1; newObject();
        promise = 2; set();
        promise = 3; hive();
        promise = 4; share();
        promise = 5; clear();
        promise = 6; give();
        promise = 7; row();
        promise = 8; strip();
        promise = 9; comb();
        promise = 10; put();
        promise = 11; take();
        promise = 12; honey();
        promise = 13; lay();
        promise = 14; tend();
        promise = 15; cell();
        promise = 16; harvest();
        promise = 17; sound();
        promise = 18; sort();
        promise = 19; told();
        promise = 20; same();
        promise = 21; count();
        System.out.println(wrong == 0 ? "all promises hold" : wrong + " answers are not as due");
        if (wrong != 0) {
            System.exit(1);
        }
    }

    private static HiveYard yard() {
        HiveYard x = new HiveYard();
        x.hive(HIVE, false, 3);
        x.hive(NARROW, true, 2);
        x.set(FRAME, 0, 7);
        x.set(BROOD, 1, 8);
        x.set(QUEEN, 2, 3);
        x.set(SMOKER, 3, 4);
        x.set(FEEDER, 4, 5);
        x.set(ALARM, 5, 77);
        return x;
    }

    /** A yard whose hives have all parts, and frames in the slots but the last of each. */
    private static HiveYard fullYard() {
        HiveYard x = yard();
        x.put(HIVE, 0, FRAME);
        x.put(HIVE, 1, BROOD);
        x.put(NARROW, 0, BROOD);
        x.give(HIVE, 0, QUEEN);
        x.give(HIVE, 1, SMOKER);
        x.give(HIVE, 2, ALARM);
        x.give(NARROW, 1, FEEDER);
        x.comb(HIVE, 2, 3);
        return x;
    }

    private static void dueCounts(HiveYard x, int nulls, int sizes, int indexes, int stores, int casts) {
        due("count(1)", x.count(1), nulls);
        due("count(2)", x.count(2), sizes);
        due("count(3)", x.count(3), indexes);
        due("count(4)", x.count(4), stores);
        due("count(5)", x.count(5), casts);
        due("count(0)", x.count(0), nulls + sizes + indexes + stores + casts + x.count(6));
    }

    private static void newObject() {
        HiveYard x = new HiveYard();
        for (int s = 0; s < 16; s++) {
            due("sort(" + s + ")", x.sort(s), NOTHING);
        }
        for (int what = 0; what < 8; what++) {
            due("count(" + what + ")", x.count(what), 0);
        }
        due("BAD", HiveYard.BAD, -1);
    }

    private static void set() {
        HiveYard x = new HiveYard();
        int[] what = {0, 0, 2, 4, 4, 5};
        for (int sort = 0; sort < 6; sort++) {
            due("set(15, " + sort + ", -9)", x.set(15, sort, -9), sort);
            due("sort(15)", x.sort(15), sort);
            due("told(15, " + what[sort] + ")", x.told(15, what[sort]), -9);
        }
        x.set(0, 1, MAX);
        due("EGGS of new BROOD", x.told(0, 1), 0);
        due("HONEY of new BROOD", x.told(0, 0), MAX);
        x.set(0, 2, MIN);
        due("AGE of a new QUEEN", x.told(0, 3), 0);
        x.share(1, 0);
        x.set(0, 2, MIN);
        due("a new THING each time", x.same(0, 1), 0);
        for (int s : NO_SHELVES) {
            due("set(" + s + ", 0, 1)", x.set(s, 0, 1), BAD);
        }
        for (int sort : new int[] {-1, 6, 7, MAX, MIN}) {
            due("set(1, " + sort + ", 1)", x.set(1, sort, 1), BAD);
        }
        due("sort(1) after BAD", x.sort(1), 2);
        dueCounts(x, 0, 0, 0, 0, 0);
    }

    private static void hive() {
        HiveYard x = new HiveYard();
        due("hive(0, false, 30)", x.hive(0, false, 30), 30);
        due("hive(15, true, 0)", x.hive(15, true, 0), 0);
        due("sort(0)", x.sort(0), 6);
        due("sort(15)", x.sort(15), 7);
        due("SLOTS", x.told(0, 6), 30);
        due("no SLOTS", x.told(15, 6), 0);
        due("no COMB at first", x.told(0, 7), LONG_NULL);
        due("no FRAME at first", x.honey(0, 29, 1), LONG_NULL);
        due("no KEEPER at first", x.tend(0, 1, false), LONG_NULL);
        due("no ALARM at first", x.sound(0), NULL);
        x.set(1, 1, 1);
        x.put(0, 0, 1);
        due("no QUEEN at first", x.lay(0, 0, 1), LONG_NULL);
        dueCounts(x, 5, 0, 0, 0, 0);
        due("hive(1, false, -1)", x.hive(1, false, -1), SIZE);
        due("hive(1, true, least)", x.hive(1, true, MIN), SIZE);
        due("sort(1) after SIZE", x.sort(1), 1);
        due("hive(1, false, 31)", x.hive(1, false, 31), BAD);
        due("hive(1, true, most)", x.hive(1, true, MAX), BAD);
        due("sort(1) after BAD", x.sort(1), 1);
        for (int s : NO_SHELVES) {
            due("hive(" + s + ", false, 1)", x.hive(s, false, 1), BAD);
            due("hive(" + s + ", false, -1)", x.hive(s, false, -1), BAD);
        }
        dueCounts(x, 5, 2, 0, 0, 0);
        due("hive(1, false, 1)", x.hive(1, false, 1), 1);
        due("sort(1)", x.sort(1), 6);
    }

    private static void share() {
        HiveYard x = yard();
        due("share(3, FRAME)", x.share(3, FRAME), 1);
        due("same(3, FRAME)", x.same(3, FRAME), 1);
        x.put(HIVE, 0, 3);
        x.honey(HIVE, 0, 10);
        due("HONEY of what is shared", x.told(FRAME, 0), 17);
        due("share(3, EMPTY)", x.share(3, EMPTY), 0);
        due("sort(3)", x.sort(3), NOTHING);
        due("sort(FRAME)", x.sort(FRAME), 0);
        due("share(HIVE, HIVE)", x.share(HIVE, HIVE), 1);
        due("share(EMPTY, EMPTY)", x.share(EMPTY, EMPTY), 0);
        due("sort(HIVE)", x.sort(HIVE), 6);
        for (int s : NO_SHELVES) {
            due("share(" + s + ", HIVE)", x.share(s, HIVE), BAD);
            due("share(HIVE, " + s + ")", x.share(HIVE, s), BAD);
        }
        due("sort(HIVE) after BAD", x.sort(HIVE), 6);
        dueCounts(x, 0, 0, 0, 0, 0);
    }

    private static void clear() {
        HiveYard x = fullYard();
        due("clear(FRAME)", x.clear(FRAME), 1);
        due("sort(FRAME)", x.sort(FRAME), NOTHING);
        due("clear(FRAME) again", x.clear(FRAME), 0);
        due("the FRAME stays in the HIVE", x.honey(HIVE, 0, 0), 7);
        due("clear(15)", x.clear(15), 0);
        due("clear(HIVE)", x.clear(HIVE), 1);
        due("clear(NARROW)", x.clear(NARROW), 1);
        for (int s : NO_SHELVES) {
            due("clear(" + s + ")", x.clear(s), BAD);
        }
        dueCounts(x, 0, 0, 0, 0, 0);
    }

    private static void give() {
        HiveYard x = yard();
        int[][] fits = {{QUEEN}, {SMOKER, FEEDER}, {ALARM}};
        int casts = 0;
        for (int what = 0; what < 3; what++) {
            for (int from = 0; from < 11; from++) {
                boolean fit = false;
                for (int f : fits[what]) {
                    fit |= f == from;
                }
                boolean none = from >= 2 && from <= 4;
                String call = "give(.., " + what + ", " + from + ")";
                due(call, x.give(HIVE, what, from), none ? 0 : fit ? 1 : CAST);
                due(call + " NARROW", x.give(NARROW, what, from), none ? 0 : fit ? 1 : CAST);
                due(call + " no HIVE", x.give(EMPTY, what, from), none || fit ? NULL : CAST);
                due(call + " other THING", x.give(FRAME, what, from), CAST);
                casts += (none || fit ? 0 : 3) + 1;
            }
        }
        // Fits: 4 and NOTHING: 9, each once against no HIVE.
        dueCounts(x, 13, 0, 0, 0, casts);
        due("the ALARM that was given", x.sound(HIVE), RAISED);
        due("ALARM to none", x.give(HIVE, 2, EMPTY), 0);
        due("none is none", x.sound(HIVE), NULL);
        x.put(HIVE, 0, BROOD);
        due("the QUEEN that was given", x.lay(HIVE, 0, 1), 3);
        due("CAST changes nothing", x.give(HIVE, 0, SMOKER), CAST);
        due("the QUEEN is still there", x.lay(HIVE, 0, 1), 6);
        due("QUEEN to none", x.give(HIVE, 0, EMPTY), 0);
        due("no QUEEN", x.lay(HIVE, 0, 1), LONG_NULL);
        due("the KEEPER that was given last", x.tend(HIVE, 1, false), 6);
        due("KEEPER to a SMOKER", x.give(HIVE, 1, SMOKER), 1);
        due("a SMOKER", x.tend(HIVE, 1, false), 5);
        due("KEEPER to none", x.give(HIVE, 1, EMPTY), 0);
        due("no KEEPER", x.tend(HIVE, 1, false), LONG_NULL);
        giveBad();
    }

    private static void giveBad() {
        HiveYard x = yard();
        for (int s : NO_SHELVES) {
            due("give(" + s + ", 0, QUEEN)", x.give(s, 0, QUEEN), BAD);
            due("give(HIVE, 0, " + s + ")", x.give(HIVE, 0, s), BAD);
            due("give(FRAME, 0, " + s + ")", x.give(FRAME, 0, s), BAD);
        }
        for (int what : new int[] {-1, 3, MAX, MIN}) {
            due("give(HIVE, " + what + ", QUEEN)", x.give(HIVE, what, QUEEN), BAD);
            due("give(EMPTY, " + what + ", FRAME)", x.give(EMPTY, what, FRAME), BAD);
        }
        dueCounts(x, 0, 0, 0, 0, 0);
    }

    private static void row() {
        HiveYard x = fullYard();
        due("row(HIVE, 30)", x.row(HIVE, 30), 30);
        due("SLOTS", x.told(HIVE, 6), 30);
        due("no FRAMES", x.honey(HIVE, 0, 0), LONG_NULL);
        due("row(HIVE, 0)", x.row(HIVE, 0), 0);
        due("SLOTS", x.told(HIVE, 6), 0);
        x.strip(NARROW);
        due("row(NARROW, 1)", x.row(NARROW, 1), 1);
        due("a NARROW ROW holds no FRAME", x.put(NARROW, 0, FRAME), STORE);
        due("a NARROW ROW holds BROOD", x.put(NARROW, 0, BROOD), 1);
        due("row(NARROW, -1)", x.row(NARROW, -1), SIZE);
        due("SIZE changes nothing", x.honey(NARROW, 0, 0), 8);
        due("row(EMPTY, -1)", x.row(EMPTY, -1), SIZE);
        due("row(EMPTY, least)", x.row(EMPTY, MIN), SIZE);
        due("row(EMPTY, 0)", x.row(EMPTY, 0), NULL);
        for (int s : NO_HIVES) {
            due("row(" + s + ", -1)", x.row(s, -1), CAST);
            due("row(" + s + ", 1)", x.row(s, 1), CAST);
            due("row(" + s + ", 31)", x.row(s, 31), BAD);
        }
        due("row(HIVE, 31)", x.row(HIVE, 31), BAD);
        due("row(EMPTY, most)", x.row(EMPTY, MAX), BAD);
        for (int s : NO_SHELVES) {
            due("row(" + s + ", 1)", x.row(s, 1), BAD);
            due("row(" + s + ", -1)", x.row(s, -1), BAD);
        }
        dueCounts(x, 2, 3, 0, 1, 12);
    }

    private static void strip() {
        HiveYard x = fullYard();
        due("strip(HIVE)", x.strip(HIVE), 3);
        due("no SLOTS told", x.told(HIVE, 6), LONG_NULL);
        due("strip(HIVE) again", x.strip(HIVE), NULL);
        due("the other parts stay", x.tend(HIVE, 1, false), 5);
        due("strip(NARROW)", x.strip(NARROW), 2);
        x.row(NARROW, 0);
        due("strip of no SLOTS", x.strip(NARROW), 0);
        due("strip(EMPTY)", x.strip(EMPTY), NULL);
        for (int s : NO_HIVES) {
            due("strip(" + s + ")", x.strip(s), CAST);
        }
        for (int s : NO_SHELVES) {
            due("strip(" + s + ")", x.strip(s), BAD);
        }
        dueCounts(x, 3, 0, 0, 0, 6);
    }

    private static void comb() {
        HiveYard x = yard();
        due("comb(HIVE, 12, 12)", x.comb(HIVE, 12, 12), 12);
        due("LINES", x.told(HIVE, 7), 12);
        due("last CELL", x.cell(HIVE, 11, 11, 5), 0);
        due("comb(HIVE, -1, 1)", x.comb(HIVE, -1, 1), SIZE);
        due("SIZE changes nothing", x.cell(HIVE, 11, 11, 6), 5);
        due("comb(HIVE, 12, 12) again", x.comb(HIVE, 12, 12), 12);
        due("a new COMB", x.cell(HIVE, 11, 11, 7), 0);
        due("comb(HIVE, 3, 0)", x.comb(HIVE, 3, 0), 3);
        due("LINES", x.told(HIVE, 7), 3);
        due("no CELLS", x.cell(HIVE, 0, 0, 1), LONG_INDEX);
        due("comb(NARROW, 0, 3)", x.comb(NARROW, 0, 3), 0);
        due("no LINES", x.cell(NARROW, 0, 0, 1), LONG_INDEX);
        due("LINES", x.told(NARROW, 7), 0);
        due("comb(HIVE, 0, -1)", x.comb(HIVE, 0, -1), SIZE);
        due("comb(HIVE, least, least)", x.comb(HIVE, MIN, MIN), SIZE);
        due("comb(EMPTY, -1, 1)", x.comb(EMPTY, -1, 1), SIZE);
        due("comb(EMPTY, 1, -1)", x.comb(EMPTY, 1, -1), SIZE);
        due("comb(EMPTY, 0, 0)", x.comb(EMPTY, 0, 0), NULL);
        for (int s : NO_HIVES) {
            due("comb(" + s + ", -1, -1)", x.comb(s, -1, -1), CAST);
            due("comb(" + s + ", 13, 1)", x.comb(s, 13, 1), BAD);
        }
        due("comb(HIVE, 13, 1)", x.comb(HIVE, 13, 1), BAD);
        due("comb(HIVE, 1, 13)", x.comb(HIVE, 1, 13), BAD);
        due("comb(HIVE, -1, 13)", x.comb(HIVE, -1, 13), BAD);
        due("comb(HIVE, most, -1)", x.comb(HIVE, MAX, -1), BAD);
        for (int s : NO_SHELVES) {
            due("comb(" + s + ", 1, 1)", x.comb(s, 1, 1), BAD);
            due("comb(" + s + ", -1, 1)", x.comb(s, -1, 1), BAD);
        }
        due("LINES after all", x.told(HIVE, 7), 3);
        dueCounts(x, 1, 5, 2, 0, 6);
    }

    private static void put() {
        HiveYard x = yard();
        due("put(HIVE, 0, FRAME)", x.put(HIVE, 0, FRAME), 1);
        due("put(HIVE, 2, BROOD)", x.put(HIVE, 2, BROOD), 1);
        due("slot 0", x.honey(HIVE, 0, 0), 7);
        due("slot 2", x.honey(HIVE, 2, 0), 8);
        due("the FRAME stays on its SHELF", x.sort(FRAME), 0);
        due("put(NARROW, 1, BROOD)", x.put(NARROW, 1, BROOD), 1);
        due("put(NARROW, 1, FRAME)", x.put(NARROW, 1, FRAME), STORE);
        due("STORE changes nothing", x.honey(NARROW, 1, 0), 8);
        due("put(NARROW, 1, EMPTY)", x.put(NARROW, 1, EMPTY), 0);
        due("NOTHING is there", x.honey(NARROW, 1, 0), LONG_NULL);
        due("put(NARROW, 2, FRAME)", x.put(NARROW, 2, FRAME), INDEX);
        due("put(HIVE, 3, EMPTY)", x.put(HIVE, 3, EMPTY), INDEX);
        due("put(HIVE, -1, FRAME)", x.put(HIVE, -1, FRAME), INDEX);
        due("put(HIVE, most, FRAME)", x.put(HIVE, MAX, FRAME), INDEX);
        due("put(HIVE, least, FRAME)", x.put(HIVE, MIN, FRAME), INDEX);
        dueCounts(x, 1, 0, 5, 1, 0);
        for (int from : new int[] {QUEEN, SMOKER, FEEDER, ALARM, HIVE, NARROW}) {
            due("put(HIVE, 9, " + from + ")", x.put(HIVE, 9, from), CAST);
            due("put(EMPTY, 0, " + from + ")", x.put(EMPTY, 0, from), CAST);
            due("put(FRAME, 0, " + from + ")", x.put(FRAME, 0, from), CAST);
        }
        for (int s : NO_HIVES) {
            due("put(" + s + ", 0, FRAME)", x.put(s, 0, FRAME), CAST);
            due("put(" + s + ", 0, EMPTY)", x.put(s, 0, EMPTY), CAST);
        }
        due("put(EMPTY, -1, FRAME)", x.put(EMPTY, -1, FRAME), NULL);
        x.strip(NARROW);
        due("no ROW", x.put(NARROW, -1, FRAME), NULL);
        due("no ROW, but CAST", x.put(NARROW, -1, QUEEN), CAST);
        for (int s : NO_SHELVES) {
            due("put(" + s + ", 0, FRAME)", x.put(s, 0, FRAME), BAD);
            due("put(HIVE, 0, " + s + ")", x.put(HIVE, 0, s), BAD);
            due("put(FRAME, 0, " + s + ")", x.put(FRAME, 0, s), BAD);
        }
        dueCounts(x, 3, 0, 5, 1, 31);
    }

    private static void take() {
        HiveYard x = fullYard();
        due("take(HIVE, 0, 12)", x.take(HIVE, 0, 12), 1);
        due("same(12, FRAME)", x.same(12, FRAME), 1);
        due("the SLOT has NOTHING", x.honey(HIVE, 0, 0), LONG_NULL);
        due("the next SLOT stays", x.honey(HIVE, 1, 0), 8);
        due("take(HIVE, 0, 12) again", x.take(HIVE, 0, 12), 0);
        due("sort(12)", x.sort(12), NOTHING);
        due("take(HIVE, 3, FRAME)", x.take(HIVE, 3, FRAME), INDEX);
        due("take(HIVE, -1, FRAME)", x.take(HIVE, -1, FRAME), INDEX);
        due("INDEX changes nothing", x.sort(FRAME), 0);
        due("take(EMPTY, 9, FRAME)", x.take(EMPTY, 9, FRAME), NULL);
        for (int s : NO_HIVES) {
            due("take(" + s + ", -1, 12)", x.take(s, -1, 12), CAST);
        }
        for (int s : NO_SHELVES) {
            due("take(" + s + ", 0, 12)", x.take(s, 0, 12), BAD);
            due("take(HIVE, 1, " + s + ")", x.take(HIVE, 1, s), BAD);
            due("take(FRAME, 1, " + s + ")", x.take(FRAME, 1, s), BAD);
        }
        due("BAD changes nothing", x.honey(HIVE, 1, 0), 8);
        due("take onto the HIVE's own SHELF", x.take(NARROW, 0, NARROW), 1);
        due("sort(NARROW)", x.sort(NARROW), 1);
        x.strip(HIVE);
        due("no ROW", x.take(HIVE, 99, FRAME), NULL);
        due("NULL changes nothing", x.sort(FRAME), 0);
        dueCounts(x, 3, 0, 2, 0, 6);
    }

    private static void honey() {
        HiveYard x = fullYard();
        due("honey(HIVE, 0, 5)", x.honey(HIVE, 0, 5), 12);
        due("HONEY", x.told(FRAME, 0), 12);
        due("honey(HIVE, 0, -20)", x.honey(HIVE, 0, -20), -8);
        due("honey(HIVE, 0, least)", x.honey(HIVE, 0, MIN), MAX - 7);
        due("honey(HIVE, 0, 8)", x.honey(HIVE, 0, 8), MIN);
        due("honey(NARROW, 0, 2)", x.honey(NARROW, 0, 2), 10);
        due("the same BROOD", x.honey(HIVE, 1, 0), 10);
        due("honey(HIVE, 2, 1)", x.honey(HIVE, 2, 1), LONG_NULL);
        due("honey(HIVE, 3, 1)", x.honey(HIVE, 3, 1), LONG_INDEX);
        due("honey(HIVE, -1, 1)", x.honey(HIVE, -1, 1), LONG_INDEX);
        due("honey(EMPTY, -1, 1)", x.honey(EMPTY, -1, 1), LONG_NULL);
        x.strip(HIVE);
        due("no ROW", x.honey(HIVE, -1, 1), LONG_NULL);
        for (int s : NO_HIVES) {
            due("honey(" + s + ", -1, 1)", x.honey(s, -1, 1), LONG_CAST);
        }
        for (int s : NO_SHELVES) {
            due("honey(" + s + ", 0, 1)", x.honey(s, 0, 1), LONG_BAD);
        }
        dueCounts(x, 3, 0, 2, 0, 6);
    }

    private static void lay() {
        HiveYard x = fullYard();
        due("lay(HIVE, 1, 2)", x.lay(HIVE, 1, 2), 6);
        due("lay(HIVE, 1, -1)", x.lay(HIVE, 1, -1), 3);
        due("lay(HIVE, 1, 0)", x.lay(HIVE, 1, 0), 3);
        due("AGE", x.told(QUEEN, 3), 3);
        due("LAYS", x.told(QUEEN, 2), 3);
        due("EGGS", x.told(BROOD, 1), 3);
        due("HONEY", x.told(BROOD, 0), 8);
        due("lay(HIVE, 1, most)", x.lay(HIVE, 1, MAX), 3 + 3 * MAX);
        due("a FRAME", x.lay(HIVE, 0, 1), LONG_CAST);
        due("NOTHING", x.lay(HIVE, 2, 1), LONG_NULL);
        due("INDEX above", x.lay(HIVE, 3, 1), LONG_INDEX);
        due("INDEX below", x.lay(HIVE, -1, 1), LONG_INDEX);
        due("AGE after REFUSALS", x.told(QUEEN, 3), 4);
        due("no QUEEN", x.lay(NARROW, 0, 1), LONG_NULL);
        due("no QUEEN, but INDEX", x.lay(NARROW, 2, 1), LONG_INDEX);
        x.give(HIVE, 0, EMPTY);
        due("no QUEEN, but CAST", x.lay(HIVE, 0, 1), LONG_CAST);
        due("no QUEEN, no BROOD", x.lay(HIVE, 2, 1), LONG_NULL);
        due("no HIVE", x.lay(EMPTY, -1, 1), LONG_NULL);
        x.strip(HIVE);
        due("no ROW", x.lay(HIVE, -1, 1), LONG_NULL);
        for (int s : NO_HIVES) {
            due("lay(" + s + ", -1, 1)", x.lay(s, -1, 1), LONG_CAST);
        }
        for (int s : NO_SHELVES) {
            due("lay(" + s + ", 0, 1)", x.lay(s, 0, 1), LONG_BAD);
        }
        dueCounts(x, 5, 0, 3, 0, 8);
    }

    private static void tend() {
        HiveYard x = fullYard();
        due("a SMOKER", x.tend(HIVE, 3, false), 7);
        due("a SMOKER twice", x.tend(HIVE, 3, true), 20);
        due("CARE of a SMOKER", x.told(SMOKER, 4), 20);
        due("a SMOKER wraps", x.tend(HIVE, MAX, false), 20 + MAX);
        due("a SMOKER leaves HONEY", x.told(FRAME, 0), 7);
        x.strip(HIVE);
        due("a SMOKER without ROW", x.tend(HIVE, -20, false), MAX);
        due("a FEEDER", x.tend(NARROW, 2, false), 6);
        due("HONEY", x.told(BROOD, 0), 10);
        due("a FEEDER twice", x.tend(NARROW, 2, true), 6);
        due("HONEY by 2 and by 6", x.told(BROOD, 0), 18);
        due("CARE of a FEEDER", x.told(FEEDER, 4), 5);
        x.put(NARROW, 1, BROOD);
        due("one BROOD in two SLOTS", x.tend(NARROW, 10, false), 7);
        due("HONEY twice more", x.told(BROOD, 0), 38);
        x.row(NARROW, 30);
        due("no FRAMES", x.tend(NARROW, 1, true), 5);
        x.strip(NARROW);
        due("a FEEDER without ROW", x.tend(NARROW, 1, true), LONG_NULL);
        x.give(NARROW, 1, EMPTY);
        due("no KEEPER", x.tend(NARROW, 1, false), LONG_NULL);
        due("no HIVE", x.tend(EMPTY, 1, false), LONG_NULL);
        for (int s : NO_HIVES) {
            due("tend(" + s + ", 1, true)", x.tend(s, 1, true), LONG_CAST);
        }
        for (int s : NO_SHELVES) {
            due("tend(" + s + ", 1, false)", x.tend(s, 1, false), LONG_BAD);
        }
        dueCounts(x, 3, 0, 0, 0, 6);
        tendWraps();
    }

    private static void tendWraps() {
        HiveYard x = yard();
        x.set(FEEDER, 4, MAX);
        x.give(HIVE, 1, FEEDER);
        x.put(HIVE, 1, FRAME);
        due("SLOTS and CARE wrap", x.tend(HIVE, 1, false), MIN);
        due("and tend by what wrapped", x.tend(HIVE, 1, true), MIN);
        due("HONEY by 1, 1 and the least", x.told(FRAME, 0), 9 + MIN);
    }

    private static void cell() {
        HiveYard x = fullYard();
        for (int l = 0; l < 2; l++) {
            for (int c = 0; c < 3; c++) {
                due("cell(HIVE, " + l + ", " + c + ", ..)", x.cell(HIVE, l, c, 10 * l + c - 7), 0);
            }
        }
        for (int l = 0; l < 2; l++) {
            for (int c = 0; c < 3; c++) {
                due("cell(HIVE, " + l + ", " + c + ", ..)", x.cell(HIVE, l, c, MIN), 10 * l + c - 7);
            }
        }
        due("it was the least int", x.cell(HIVE, 0, 0, MAX), MIN);
        due("LINE above", x.cell(HIVE, 2, 0, 1), LONG_INDEX);
        due("LINE below", x.cell(HIVE, -1, 2, 1), LONG_INDEX);
        due("CELL above", x.cell(HIVE, 0, 3, 1), LONG_INDEX);
        due("CELL below", x.cell(HIVE, 1, -1, 1), LONG_INDEX);
        due("most", x.cell(HIVE, MAX, MAX, 1), LONG_INDEX);
        due("no COMB", x.cell(NARROW, -1, 0, 1), LONG_NULL);
        due("no HIVE", x.cell(EMPTY, 0, 0, 1), LONG_NULL);
        due("INDEX changes nothing", x.cell(HIVE, 0, 0, 1), MAX);
        due("INDEX changes nothing", x.cell(HIVE, 1, 0, 1), MIN);
        for (int s : NO_HIVES) {
            due("cell(" + s + ", -1, 0, 1)", x.cell(s, -1, 0, 1), LONG_CAST);
        }
        for (int s : NO_SHELVES) {
            due("cell(" + s + ", 0, 0, 1)", x.cell(s, 0, 0, 1), LONG_BAD);
        }
        dueCounts(x, 2, 0, 5, 0, 6);
    }

    private static void harvest() {
        HiveYard x = fullYard();
        due("one has less", x.harvest(HIVE, 8), 8);
        due("FRAME", x.told(FRAME, 0), 7);
        due("BROOD", x.told(BROOD, 0), 0);
        due("just enough", x.harvest(HIVE, 7), 7);
        due("FRAME", x.told(FRAME, 0), 0);
        due("all have less", x.harvest(HIVE, 1), 0);
        x.honey(HIVE, 0, 5);
        x.put(HIVE, 2, FRAME);
        due("one FRAME in two SLOTS", x.harvest(HIVE, 2), 4);
        due("one FRAME in two SLOTS, enough once", x.harvest(HIVE, 1), 1);
        x.honey(HIVE, 0, -9);
        due("HONEY below 0", x.harvest(HIVE, 1), 0);
        due("HONEY below 0 stays", x.told(FRAME, 0), -9);
        due("most", x.harvest(HIVE, MAX), 0);
        for (int v : new int[] {0, -1, MIN}) {
            due("harvest(HIVE, " + v + ")", x.harvest(HIVE, v), LONG_BAD);
            due("harvest(FRAME, " + v + ")", x.harvest(FRAME, v), LONG_BAD);
            due("harvest(EMPTY, " + v + ")", x.harvest(EMPTY, v), LONG_BAD);
        }
        x.strip(HIVE);
        due("no ROW", x.harvest(HIVE, 1), LONG_NULL);
        due("no HIVE", x.harvest(EMPTY, 1), LONG_NULL);
        for (int s : NO_HIVES) {
            due("harvest(" + s + ", 1)", x.harvest(s, 1), LONG_CAST);
        }
        for (int s : NO_SHELVES) {
            due("harvest(" + s + ", 1)", x.harvest(s, 1), LONG_BAD);
        }
        dueCounts(x, 2, 0, 0, 0, 6);
        harvestWraps();
    }

    private static void harvestWraps() {
        HiveYard x = yard();
        x.set(FRAME, 0, MAX);
        x.set(BROOD, 1, MAX);
        x.put(HIVE, 0, FRAME);
        x.put(HIVE, 1, BROOD);
        due("all numbers are ints, that wrap", x.harvest(HIVE, MAX), -2);
        due("FRAME", x.told(FRAME, 0), 0);
        due("BROOD", x.told(BROOD, 0), 0);
    }

    private static void sound() {
        HiveYard x = fullYard();
        due("sound(HIVE)", x.sound(HIVE), RAISED);
        due("sound(HIVE) again", x.sound(HIVE), RAISED);
        due("count(6)", x.count(6), 2);
        due("count(7)", x.count(7), 77);
        due("no ALARM", x.sound(NARROW), NULL);
        due("no HIVE", x.sound(EMPTY), NULL);
        for (int s : NO_HIVES) {
            due("sound(" + s + ")", x.sound(s), CAST);
        }
        for (int s : NO_SHELVES) {
            due("sound(" + s + ")", x.sound(s), BAD);
        }
        dueCounts(x, 2, 0, 0, 0, 6);
        due("count(6)", x.count(6), 2);
    }

    private static void sort() {
        HiveYard x = yard();
        int[] sorts = {6, 7, -2, -2, -2, 0, 1, 2, 3, 4, 5, -2, -2, -2, -2, -2};
        for (int s = 0; s < 16; s++) {
            due("sort(" + s + ")", x.sort(s), sorts[s]);
        }
        for (int s : NO_SHELVES) {
            due("sort(" + s + ")", x.sort(s), BAD);
        }
        dueCounts(x, 0, 0, 0, 0, 0);
    }

    private static void told() {
        HiveYard x = fullYard();
        x.lay(HIVE, 1, 2);
        x.comb(NARROW, 4, 5);
        long[][] want = new long[16][8];
        for (int s = 0; s < 16; s++) {
            boolean none = x.sort(s) == NOTHING;
            for (int what = 0; what < 8; what++) {
                want[s][what] = none ? LONG_NULL : LONG_CAST;
            }
        }
        want[FRAME][0] = 7;
        want[BROOD][0] = 8;
        want[BROOD][1] = 6;
        want[QUEEN][2] = 3;
        want[QUEEN][3] = 1;
        want[SMOKER][4] = 4;
        want[FEEDER][4] = 5;
        want[ALARM][5] = 77;
        want[HIVE][6] = 3;
        want[HIVE][7] = 2;
        want[NARROW][6] = 2;
        want[NARROW][7] = 4;
        for (int s = 0; s < 16; s++) {
            for (int what = 0; what < 8; what++) {
                due("told(" + s + ", " + what + ")", x.told(s, what), want[s][what]);
            }
        }
        dueCounts(x, 64, 0, 0, 0, 52);
        for (int s : NO_SHELVES) {
            due("told(" + s + ", 0)", x.told(s, 0), LONG_BAD);
        }
        for (int what : new int[] {-1, 8, MAX, MIN}) {
            due("told(HIVE, " + what + ")", x.told(HIVE, what), LONG_BAD);
            due("told(EMPTY, " + what + ")", x.told(EMPTY, what), LONG_BAD);
        }
        dueCounts(x, 64, 0, 0, 0, 52);
        x.strip(HIVE);
        due("no ROW", x.told(HIVE, 6), LONG_NULL);
        x.hive(3, true, 1);
        due("no COMB", x.told(3, 7), LONG_NULL);
        dueCounts(x, 66, 0, 0, 0, 52);
    }

    private static void same() {
        HiveYard x = yard();
        due("both NOTHING", x.same(EMPTY, 15), 1);
        due("one NOTHING", x.same(EMPTY, FRAME), 0);
        due("one NOTHING", x.same(FRAME, EMPTY), 0);
        due("itself", x.same(FRAME, FRAME), 1);
        x.set(11, 0, 7);
        due("alike, but another", x.same(FRAME, 11), 0);
        x.share(11, FRAME);
        due("shared", x.same(FRAME, 11), 1);
        for (int s : NO_SHELVES) {
            due("same(" + s + ", 0)", x.same(s, 0), BAD);
            due("same(0, " + s + ")", x.same(0, s), BAD);
            due("same(" + s + ", " + s + ")", x.same(s, s), BAD);
        }
        dueCounts(x, 0, 0, 0, 0, 0);
    }

    private static void count() {
        HiveYard x = fullYard();
        for (int n = 1; n <= 3; n++) {
            x.strip(EMPTY);
            x.honey(EMPTY, 0, 0);
            x.row(HIVE, -1);
            x.put(HIVE, 3, FRAME);
            x.cell(HIVE, 0, 3, 0);
            x.put(NARROW, 0, FRAME);
            x.strip(FRAME);
            x.sound(HIVE);
            x.strip(16);
            dueCounts(x, 2 * n, n, 2 * n, n, n);
            due("count(6)", x.count(6), n);
            due("count(0)", x.count(0), 8 * n);
            due("count(7)", x.count(7), 77);
        }
        x.set(11, 5, -4);
        x.give(NARROW, 2, 11);
        due("CODE of the last that was RAISED", x.count(7), 77);
        x.sound(NARROW);
        due("CODE of the last that was RAISED", x.count(7), -4);
        x.sound(EMPTY);
        due("not RAISED", x.count(7), -4);
        x.clear(NARROW);
        due("not RAISED", x.count(7), -4);
        for (int what : new int[] {-1, 8, MAX, MIN}) {
            due("count(" + what + ")", x.count(what), BAD);
        }
        due("another object", new HiveYard().count(0), 0);
    }
}
