import java.util.ArrayList;
import java.util.List;

// Each call that is BAD or refused, in the order in which its promise looks: it is made on one of two
// yards that were made alike, and then both must answer every question alike, but for count().
public final class HiveYardRefusals {
    private static final int BAD = -1;
    private static final int NULL = -11;
    private static final int SIZE = -12;
    private static final int INDEX = -13;
    private static final int STORE = -14;
    private static final int CAST = -15;
    private static final int RAISED = -16;
    // The least long and 100 more, as the document tells it of honey().
    private static final long LONG_BAD = -9223372036854775808L;
    private static final long LONG_MORE = -9223372036854775708L;
    private static final long LONG_NULL = LONG_MORE + NULL;
    private static final long LONG_INDEX = LONG_MORE + INDEX;
    private static final long LONG_CAST = LONG_MORE + CAST;

    private static final int MAX = Integer.MAX_VALUE;
    private static final int MIN = Integer.MIN_VALUE;
    private static final int MOST_CALLS = 512;

    // The shelves of yard().
    private static final int HIVE = 0;
    private static final int NARROW = 1;
    private static final int STRIPPED = 2;
    private static final int BARE_NARROW = 3;
    private static final int EMPTY = 4;
    private static final int FRAME = 5;
    private static final int BROOD = 6;
    private static final int QUEEN = 7;
    private static final int SMOKER = 8;
    private static final int FEEDER = 9;
    private static final int ALARM = 10;
    private static final int OTHER_ALARM = 11;
    private static final int FRAME_AGAIN = 12;
    private static final int NO_SLOTS = 13;
    private static final int HIVE_AGAIN = 15;

    private static final int[] HIVES = {HIVE, NARROW, STRIPPED, BARE_NARROW, NO_SLOTS, HIVE_AGAIN};
    private static final int[] NO_HIVES = {FRAME, BROOD, QUEEN, SMOKER, FEEDER, ALARM, OTHER_ALARM, FRAME_AGAIN};
    private static final int[] NO_FRAMES = {QUEEN, SMOKER, FEEDER, ALARM, HIVE, NARROW, STRIPPED, BARE_NARROW};
    private static final int[] NO_SHELVES = {MIN, -1, 16, MAX};
    private static final int[] NO_SLOTS_OF_4 = {MIN, -1, 4, MAX};
    private static final int[] NO_SLOTS_OF_2 = {MIN, -1, 2, MAX};

    private static final int HIVE_SLOTS = 4;
    private static final int LINES = 2;
    private static final int CELLS = 3;

    private interface Call {
        long on(HiveYard x);
    }

    private interface ShelfCall {
        long on(HiveYard x, int shelf);
    }

    private static String promise = "";
    private static int wrong = 0;

    public static void main(String[] args) {
        promise = "the two yards"; yardsAlike();
        promise = "SHELVES 0 .. 15"; shelves();
        promise = "2 set"; set();
        promise = "3 hive"; hive();
        promise = "6 give"; give();
        promise = "7 row"; row();
        promise = "8 strip"; strip();
        promise = "9 comb"; comb();
        promise = "10 put"; put();
        promise = "11 take"; take();
        promise = "12 honey"; honey();
        promise = "13 lay"; lay();
        promise = "14 tend"; tend();
        promise = "15 cell"; cell();
        promise = "16 harvest"; harvest();
        promise = "17 sound"; sound();
        promise = "19 told"; told();
        promise = "21 count"; count();
        System.out.println(wrong == 0 ? "all refusals are as due" : wrong + " refusals are not as due");
        if (wrong != 0) {
            System.exit(1);
        }
    }

    private static void due(String what, long got, long want) {
        if (got != want) {
            wrong++;
            System.out.println("promise " + promise + ": " + what + " is " + got + ", due is " + want);
        }
    }

    // ---- the two yards

    private static HiveYard yard() {
        HiveYard x = new HiveYard();
        int[] numbers = {7, 8, 3, 4, 5, 77};
        for (int sort = 0; sort < 6; sort++) {
            x.set(FRAME + sort, sort, numbers[sort]);
        }
        x.set(OTHER_ALARM, 5, -4);
        x.share(FRAME_AGAIN, FRAME);
        x.hive(HIVE, false, HIVE_SLOTS);
        x.put(HIVE, 0, FRAME);
        x.put(HIVE, 1, BROOD);
        x.put(HIVE, 3, FRAME);
        x.give(HIVE, 0, QUEEN);
        x.give(HIVE, 1, SMOKER);
        x.give(HIVE, 2, ALARM);
        x.comb(HIVE, LINES, CELLS);
        for (int l = 0; l < LINES; l++) {
            for (int c = 0; c < CELLS; c++) {
                x.cell(HIVE, l, c, 10 * l + c + 11);
            }
        }
        x.hive(NARROW, true, 2);
        x.put(NARROW, 0, BROOD);
        x.give(NARROW, 1, FEEDER);
        x.hive(STRIPPED, false, 1);
        x.strip(STRIPPED);
        x.give(STRIPPED, 0, QUEEN);
        x.give(STRIPPED, 1, FEEDER);
        x.give(STRIPPED, 2, OTHER_ALARM);
        x.comb(STRIPPED, 1, 1);
        x.cell(STRIPPED, 0, 0, 9);
        x.hive(BARE_NARROW, true, 1);
        x.strip(BARE_NARROW);
        x.hive(NO_SLOTS, false, 0);
        x.comb(NO_SLOTS, 0, 2);
        x.share(HIVE_AGAIN, HIVE);
        // Sounded once, so that a CODE that is lost or changed is seen in count(7).
        x.sound(HIVE);
        return x;
    }

    /** What a yard answers to questions about all that it has; asking changes it, so it is thrown away. */
    private static List<String> seen(HiveYard x) {
        List<String> seen = new ArrayList<>();
        for (int s = 0; s < 16; s++) {
            seen.add("sort(" + s + ") = " + x.sort(s));
            for (int what = 0; what < 8; what++) {
                seen.add("told(" + s + ", " + what + ") = " + x.told(s, what));
            }
            for (int other = s + 1; other < 16; other++) {
                seen.add("same(" + s + ", " + other + ") = " + x.same(s, other));
            }
        }
        seeRows(x, seen);
        seeCombs(x, seen);
        seeParts(x, seen);
        return seen;
    }

    // Adds another number in every SLOT, so that the HONEY tells which FRAME stands where.
    private static void seeRows(HiveYard x, List<String> seen) {
        for (int h : HIVES) {
            for (int i = 0; i <= HIVE_SLOTS; i++) {
                seen.add("honey(" + h + ", " + i + ", ..) = " + x.honey(h, i, 1 << (4 * h + i) % 31));
            }
        }
        seen.add("HONEY of the FRAME = " + x.told(FRAME, 0));
        seen.add("HONEY of the BROOD = " + x.told(BROOD, 0));
    }

    private static void seeCombs(HiveYard x, List<String> seen) {
        for (int l = 0; l < LINES; l++) {
            for (int c = 0; c < CELLS; c++) {
                seen.add("cell(HIVE, " + l + ", " + c + ", ..) = " + x.cell(HIVE, l, c, 0));
            }
        }
        seen.add("cell(STRIPPED, 0, 0, ..) = " + x.cell(STRIPPED, 0, 0, 0));
    }

    private static void seeParts(HiveYard x, List<String> seen) {
        for (int h : HIVES) {
            seen.add("tend(" + h + ", 1, false) = " + x.tend(h, 1, false));
            seen.add("sound(" + h + ") = " + x.sound(h));
            seen.add("CODE = " + x.count(7));
            seen.add("row(" + h + ", 2) = " + x.row(h, 2));
            seen.add("put(" + h + ", 0, FRAME) = " + x.put(h, 0, FRAME));
            seen.add("put(" + h + ", 1, BROOD) = " + x.put(h, 1, BROOD));
            seen.add("tend(" + h + ", 1, true) = " + x.tend(h, 1, true));
            seen.add("lay(" + h + ", 1, 1) = " + x.lay(h, 1, 1));
        }
        int[][] asked = {{FRAME, 0}, {BROOD, 0}, {BROOD, 1}, {QUEEN, 3}, {SMOKER, 4}, {FEEDER, 4}};
        for (int[] a : asked) {
            seen.add("told(" + a[0] + ", " + a[1] + ") at last = " + x.told(a[0], a[1]));
        }
    }

    private static void dueAlike(String call, HiveYard touched, HiveYard left) {
        List<String> got = seen(touched);
        List<String> want = seen(left);
        for (int n = 0; n < want.size(); n++) {
            if (!got.get(n).equals(want.get(n))) {
                wrong++;
                System.out.println("promise " + promise + ": after " + call + ": " + got.get(n) + ", due is " + want.get(n));
                return;
            }
        }
    }

    /** The call answers BAD, and nothing has changed. */
    private static void bad(String call, long want, Call made) {
        HiveYard touched = yard();
        HiveYard left = yard();
        due(call, made.on(touched), want);
        for (int what = 0; what < 8; what++) {
            due("count(" + what + ") after " + call, touched.count(what), left.count(what));
        }
        dueAlike(call, touched, left);
    }

    /** The call answers a refusal, is counted once, by its kind, and nothing else has changed. */
    private static void refused(String call, long want, Call made) {
        refusedWithCode(call, want, 77, made);
    }

    private static void refusedWithCode(String call, long want, int code, Call made) {
        HiveYard touched = yard();
        HiveYard left = yard();
        long kind = -10 - (want < LONG_MORE ? want - LONG_MORE : want);
        due(call, made.on(touched), want);
        due("count(0) after " + call, touched.count(0), left.count(0) + 1);
        for (int what = 1; what < 7; what++) {
            due("count(" + what + ") after " + call, touched.count(what), left.count(what) + (what == kind ? 1 : 0));
        }
        due("count(7) after " + call, touched.count(7), code);
        dueAlike(call, touched, left);
    }

    // The yards would prove nothing if they were asked more than the document allows, or told no change.
    private static void yardsAlike() {
        int made = 60;
        due("a yard is asked too much", made + seen(yard()).size() > MOST_CALLS ? 1 : 0, 0);
        due("all slots, cells and parts are there", fitOut(), 0);
        int before = wrong;
        dueAlike("no call", yard(), yard());
        due("yards that differ without a call", wrong, before);
    }

    private static int fitOut() {
        HiveYard x = yard();
        int missing = x.told(HIVE, 6) == HIVE_SLOTS && x.told(HIVE, 7) == LINES ? 0 : 1;
        missing += x.told(NARROW, 6) == 2 && x.told(NO_SLOTS, 6) == 0 && x.told(NO_SLOTS, 7) == 0 ? 0 : 1;
        missing += x.cell(HIVE, 1, 2, 0) == 23 && x.told(STRIPPED, 6) == LONG_NULL ? 0 : 1;
        missing += x.lay(HIVE, 1, 1) == 3 && x.tend(HIVE, 1, false) == 5 && x.tend(NARROW, 1, false) == 6 ? 0 : 1;
        missing += x.sound(STRIPPED) == RAISED && x.count(7) == -4 && x.same(HIVE, HIVE_AGAIN) == 1 ? 0 : 1;
        return missing;
    }

    // ---- SHELVES 0 .. 15, for each argument that names one

    private static void shelves() {
        shelfInt("set(s, 0, 1)", (x, s) -> x.set(s, 0, 1));
        shelfInt("hive(s, false, 1)", (x, s) -> x.hive(s, false, 1));
        shelfInt("hive(s, true, -1)", (x, s) -> x.hive(s, true, -1));
        shelfInt("share(s, FRAME)", (x, s) -> x.share(s, FRAME));
        shelfInt("share(FRAME, s)", (x, s) -> x.share(FRAME, s));
        shelfInt("clear(s)", (x, s) -> x.clear(s));
        shelfInt("give(s, 0, QUEEN)", (x, s) -> x.give(s, 0, QUEEN));
        shelfInt("give(HIVE, 0, s)", (x, s) -> x.give(HIVE, 0, s));
        shelfInt("give(FRAME, 0, s)", (x, s) -> x.give(FRAME, 0, s));
        shelfInt("row(s, 1)", (x, s) -> x.row(s, 1));
        shelfInt("row(s, -1)", (x, s) -> x.row(s, -1));
        shelfInt("strip(s)", (x, s) -> x.strip(s));
        shelfInt("comb(s, 1, 1)", (x, s) -> x.comb(s, 1, 1));
        shelfInt("comb(s, -1, -1)", (x, s) -> x.comb(s, -1, -1));
        shelfInt("put(s, 0, FRAME)", (x, s) -> x.put(s, 0, FRAME));
        shelfInt("put(HIVE, 0, s)", (x, s) -> x.put(HIVE, 0, s));
        shelfInt("put(FRAME, 0, s)", (x, s) -> x.put(FRAME, 0, s));
        shelfInt("take(s, 0, EMPTY)", (x, s) -> x.take(s, 0, EMPTY));
        shelfInt("take(HIVE, 0, s)", (x, s) -> x.take(HIVE, 0, s));
        shelfInt("take(FRAME, 0, s)", (x, s) -> x.take(FRAME, 0, s));
        shelfInt("sound(s)", (x, s) -> x.sound(s));
        shelfInt("sort(s)", (x, s) -> x.sort(s));
        shelfInt("same(s, FRAME)", (x, s) -> x.same(s, FRAME));
        shelfInt("same(FRAME, s)", (x, s) -> x.same(FRAME, s));
        shelfInt("same(s, s)", (x, s) -> x.same(s, s));
        shelfLong("honey(s, 0, 1)", (x, s) -> x.honey(s, 0, 1));
        shelfLong("lay(s, 1, 1)", (x, s) -> x.lay(s, 1, 1));
        shelfLong("tend(s, 1, true)", (x, s) -> x.tend(s, 1, true));
        shelfLong("cell(s, 0, 0, 1)", (x, s) -> x.cell(s, 0, 0, 1));
        shelfLong("harvest(s, 1)", (x, s) -> x.harvest(s, 1));
        shelfLong("told(s, 0)", (x, s) -> x.told(s, 0));
    }

    private static void shelfInt(String call, ShelfCall made) {
        shelf(call, BAD, made);
    }

    private static void shelfLong(String call, ShelfCall made) {
        shelf(call, LONG_BAD, made);
    }

    private static void shelf(String call, long wantBad, ShelfCall made) {
        for (int s : NO_SHELVES) {
            bad(call + " with s = " + s, wantBad, x -> made.on(x, s));
        }
        for (int s = 0; s < 16; s++) {
            int there = s;
            due(call + " with s = " + there + ": whether BAD", made.on(yard(), there) == wantBad ? 1 : 0, 0);
        }
    }

    // ---- the promises

    private static void set() {
        for (int sort : new int[] {MIN, -1, 6, 7, MAX}) {
            bad("set(EMPTY, " + sort + ", 1)", BAD, x -> x.set(EMPTY, sort, 1));
            bad("set(FRAME, " + sort + ", 1)", BAD, x -> x.set(FRAME, sort, 1));
        }
    }

    private static void hive() {
        for (boolean narrow : new boolean[] {false, true}) {
            for (int s : new int[] {HIVE, EMPTY, FRAME}) {
                for (int n : new int[] {MIN, -30, -1}) {
                    refused("hive(" + s + ", " + narrow + ", " + n + ")", SIZE, x -> x.hive(s, narrow, n));
                }
                for (int n : new int[] {31, MAX}) {
                    bad("hive(" + s + ", " + narrow + ", " + n + ")", BAD, x -> x.hive(s, narrow, n));
                }
            }
        }
    }

    private static void give() {
        for (int what : new int[] {MIN, -1, 3, MAX}) {
            for (int s : new int[] {HIVE, EMPTY, FRAME}) {
                bad("give(" + s + ", " + what + ", QUEEN)", BAD, x -> x.give(s, what, QUEEN));
                bad("give(" + s + ", " + what + ", EMPTY)", BAD, x -> x.give(s, what, EMPTY));
            }
        }
        int[][] fits = {{QUEEN}, {SMOKER, FEEDER}, {ALARM, OTHER_ALARM}};
        for (int part = 0; part < 3; part++) {
            int what = part;
            for (int s : NO_HIVES) {
                for (int from = 0; from < 16; from++) {
                    int that = from;
                    refused("give(" + s + ", " + what + ", " + that + "): CAST of the HIVE", CAST, x -> x.give(s, what, that));
                }
            }
            for (int from = 0; from < 16; from++) {
                giveFrom(what, from, fits[what]);
            }
        }
    }

    private static void giveFrom(int what, int from, int[] fits) {
        boolean nothing = from == EMPTY || from == 14;
        if (nothing || has(fits, from)) {
            refused("give(EMPTY, " + what + ", " + from + "): NULL", NULL, x -> x.give(EMPTY, what, from));
            return;
        }
        refused("give(EMPTY, " + what + ", " + from + "): CAST before NULL", CAST, x -> x.give(EMPTY, what, from));
        for (int s : HIVES) {
            refused("give(" + s + ", " + what + ", " + from + "): CAST of that", CAST, x -> x.give(s, what, from));
        }
    }

    private static boolean has(int[] all, int one) {
        for (int a : all) {
            if (a == one) {
                return true;
            }
        }
        return false;
    }

    private static void row() {
        for (int s : NO_HIVES) {
            for (int n : new int[] {MIN, -1, 0, 30}) {
                refused("row(" + s + ", " + n + "): CAST before SIZE", CAST, x -> x.row(s, n));
            }
        }
        for (int n : new int[] {MIN, -1}) {
            refused("row(EMPTY, " + n + "): SIZE before NULL", SIZE, x -> x.row(EMPTY, n));
            for (int s : HIVES) {
                refused("row(" + s + ", " + n + "): SIZE", SIZE, x -> x.row(s, n));
            }
        }
        refused("row(EMPTY, 0): NULL", NULL, x -> x.row(EMPTY, 0));
        refused("row(EMPTY, 30): NULL", NULL, x -> x.row(EMPTY, 30));
        for (int n : new int[] {31, MAX}) {
            for (int s : new int[] {HIVE, STRIPPED, EMPTY, FRAME}) {
                bad("row(" + s + ", " + n + ")", BAD, x -> x.row(s, n));
            }
        }
    }

    private static void strip() {
        for (int s : NO_HIVES) {
            refused("strip(" + s + "): CAST", CAST, x -> x.strip(s));
        }
        refused("strip(EMPTY): no HIVE", NULL, x -> x.strip(EMPTY));
        refused("strip(STRIPPED): no ROW", NULL, x -> x.strip(STRIPPED));
        refused("strip(BARE_NARROW): no ROW", NULL, x -> x.strip(BARE_NARROW));
    }

    private static void comb() {
        int[][] below = {{MIN, MIN}, {-1, -1}, {-1, 0}, {0, -1}, {-1, 12}, {12, -1}, {MIN, 1}, {1, MIN}};
        for (int[] nm : below) {
            String sizes = ", " + nm[0] + ", " + nm[1] + ")";
            for (int s : NO_HIVES) {
                refused("comb(" + s + sizes + ": CAST before SIZE", CAST, x -> x.comb(s, nm[0], nm[1]));
            }
            for (int s : HIVES) {
                refused("comb(" + s + sizes + ": SIZE", SIZE, x -> x.comb(s, nm[0], nm[1]));
            }
            refused("comb(EMPTY" + sizes + ": SIZE before NULL", SIZE, x -> x.comb(EMPTY, nm[0], nm[1]));
        }
        for (int[] nm : new int[][] {{0, 0}, {1, 1}, {12, 12}}) {
            String sizes = ", " + nm[0] + ", " + nm[1] + ")";
            for (int s : NO_HIVES) {
                refused("comb(" + s + sizes + ": CAST", CAST, x -> x.comb(s, nm[0], nm[1]));
            }
            refused("comb(EMPTY" + sizes + ": NULL", NULL, x -> x.comb(EMPTY, nm[0], nm[1]));
        }
        for (int[] nm : new int[][] {{13, 0}, {0, 13}, {13, 13}, {MAX, 1}, {1, MAX}, {MAX, MAX}, {13, -1}, {-1, 13}}) {
            for (int s : new int[] {HIVE, EMPTY, FRAME}) {
                bad("comb(" + s + ", " + nm[0] + ", " + nm[1] + ")", BAD, x -> x.comb(s, nm[0], nm[1]));
            }
        }
    }

    private static void put() {
        for (int s : NO_HIVES) {
            for (int from : new int[] {QUEEN, HIVE, FRAME, EMPTY}) {
                refused("put(" + s + ", -1, " + from + "): CAST of the HIVE", CAST, x -> x.put(s, -1, from));
                refused("put(" + s + ", 0, " + from + "): CAST of the HIVE", CAST, x -> x.put(s, 0, from));
            }
        }
        for (int from : NO_FRAMES) {
            refused("put(EMPTY, 0, " + from + "): CAST of that before NULL (no HIVE)", CAST, x -> x.put(EMPTY, 0, from));
            refused("put(STRIPPED, 0, " + from + "): CAST of that before NULL (no ROW)", CAST, x -> x.put(STRIPPED, 0, from));
            refused("put(HIVE, 0, " + from + "): CAST of that", CAST, x -> x.put(HIVE, 0, from));
            refused("put(NARROW, 0, " + from + "): CAST of that, no STORE", CAST, x -> x.put(NARROW, 0, from));
            refused("put(HIVE, -1, " + from + "): CAST of that before INDEX", CAST, x -> x.put(HIVE, -1, from));
            refused("put(HIVE, 4, " + from + "): CAST of that before INDEX", CAST, x -> x.put(HIVE, 4, from));
        }
        for (int i : new int[] {MIN, -1, 0, 4, MAX}) {
            for (int from : new int[] {FRAME, BROOD, EMPTY}) {
                String rest = ", " + i + ", " + from + ")";
                refused("put(EMPTY" + rest + ": no HIVE before INDEX", NULL, x -> x.put(EMPTY, i, from));
                refused("put(STRIPPED" + rest + ": no ROW before INDEX", NULL, x -> x.put(STRIPPED, i, from));
                refused("put(BARE_NARROW" + rest + ": no ROW before INDEX and STORE", NULL, x -> x.put(BARE_NARROW, i, from));
                refused("put(NO_SLOTS" + rest + ": INDEX", INDEX, x -> x.put(NO_SLOTS, i, from));
            }
        }
        for (int from : new int[] {FRAME, BROOD, EMPTY}) {
            for (int i : NO_SLOTS_OF_4) {
                refused("put(HIVE, " + i + ", " + from + "): INDEX", INDEX, x -> x.put(HIVE, i, from));
            }
            for (int i : NO_SLOTS_OF_2) {
                refused("put(NARROW, " + i + ", " + from + "): INDEX before STORE", INDEX, x -> x.put(NARROW, i, from));
            }
        }
        refused("put(NARROW, 0, FRAME): STORE over BROOD", STORE, x -> x.put(NARROW, 0, FRAME));
        refused("put(NARROW, 1, FRAME): STORE over NOTHING", STORE, x -> x.put(NARROW, 1, FRAME));
    }

    private static void take() {
        for (int to : new int[] {EMPTY, FRAME, HIVE}) {
            for (int s : NO_HIVES) {
                refused("take(" + s + ", -1, " + to + "): CAST", CAST, x -> x.take(s, -1, to));
                refused("take(" + s + ", 0, " + to + "): CAST", CAST, x -> x.take(s, 0, to));
            }
            for (int i : new int[] {MIN, -1, 0, MAX}) {
                String rest = ", " + i + ", " + to + ")";
                refused("take(EMPTY" + rest + ": no HIVE before INDEX", NULL, x -> x.take(EMPTY, i, to));
                refused("take(STRIPPED" + rest + ": no ROW before INDEX", NULL, x -> x.take(STRIPPED, i, to));
                refused("take(NO_SLOTS" + rest + ": INDEX", INDEX, x -> x.take(NO_SLOTS, i, to));
            }
            for (int i : NO_SLOTS_OF_4) {
                refused("take(HIVE, " + i + ", " + to + "): INDEX", INDEX, x -> x.take(HIVE, i, to));
            }
        }
    }

    private static void honey() {
        for (int v : new int[] {MIN, 0, 1, MAX}) {
            for (int s : NO_HIVES) {
                refused("honey(" + s + ", -1, " + v + "): CAST", LONG_CAST, x -> x.honey(s, -1, v));
                refused("honey(" + s + ", 0, " + v + "): CAST", LONG_CAST, x -> x.honey(s, 0, v));
            }
            for (int i : new int[] {MIN, -1, 0, MAX}) {
                String rest = ", " + i + ", " + v + ")";
                refused("honey(EMPTY" + rest + ": no HIVE before INDEX", LONG_NULL, x -> x.honey(EMPTY, i, v));
                refused("honey(STRIPPED" + rest + ": no ROW before INDEX", LONG_NULL, x -> x.honey(STRIPPED, i, v));
                refused("honey(NO_SLOTS" + rest + ": INDEX", LONG_INDEX, x -> x.honey(NO_SLOTS, i, v));
            }
            for (int i : NO_SLOTS_OF_4) {
                refused("honey(HIVE, " + i + ", " + v + "): INDEX", LONG_INDEX, x -> x.honey(HIVE, i, v));
            }
            refused("honey(HIVE, 2, " + v + "): no FRAME", LONG_NULL, x -> x.honey(HIVE, 2, v));
            refused("honey(NARROW, 1, " + v + "): no FRAME", LONG_NULL, x -> x.honey(NARROW, 1, v));
        }
    }

    private static void lay() {
        for (int s : NO_HIVES) {
            refused("lay(" + s + ", -1, 1): CAST", LONG_CAST, x -> x.lay(s, -1, 1));
            refused("lay(" + s + ", 0, 1): CAST", LONG_CAST, x -> x.lay(s, 0, 1));
        }
        for (int i : new int[] {MIN, -1, 0, MAX}) {
            refused("lay(EMPTY, " + i + ", 1): no HIVE before INDEX", LONG_NULL, x -> x.lay(EMPTY, i, 1));
            refused("lay(STRIPPED, " + i + ", 1): no ROW before INDEX", LONG_NULL, x -> x.lay(STRIPPED, i, 1));
            refused("lay(NO_SLOTS, " + i + ", 1): INDEX before no QUEEN", LONG_INDEX, x -> x.lay(NO_SLOTS, i, 1));
        }
        for (int i : NO_SLOTS_OF_4) {
            refused("lay(HIVE, " + i + ", 1): INDEX", LONG_INDEX, x -> x.lay(HIVE, i, 1));
        }
        for (int i : NO_SLOTS_OF_2) {
            refused("lay(NARROW, " + i + ", 1): INDEX before no QUEEN", LONG_INDEX, x -> x.lay(NARROW, i, 1));
        }
        for (int n : new int[] {MIN, 0, 1, MAX}) {
            refused("lay(HIVE, 0, " + n + "): CAST of the FRAME", LONG_CAST, x -> x.lay(HIVE, 0, n));
            refused("lay(HIVE, 2, " + n + "): no BROOD", LONG_NULL, x -> x.lay(HIVE, 2, n));
            refused("lay(NARROW, 0, " + n + "): no QUEEN", LONG_NULL, x -> x.lay(NARROW, 0, n));
            refused("lay(NARROW, 1, " + n + "): no QUEEN, no BROOD, once", LONG_NULL, x -> x.lay(NARROW, 1, n));
        }
        HiveYard x = yard();
        x.give(HIVE, 0, EMPTY);
        due("CAST of the FRAME before no QUEEN", x.lay(HIVE, 0, 1), LONG_CAST);
        due("INDEX before no QUEEN", x.lay(HIVE, 4, 1), LONG_INDEX);
    }

    private static void tend() {
        for (boolean twice : new boolean[] {false, true}) {
            for (int n : new int[] {MIN, 0, 1, MAX}) {
                String rest = ", " + n + ", " + twice + ")";
                for (int s : NO_HIVES) {
                    refused("tend(" + s + rest + ": CAST", LONG_CAST, x -> x.tend(s, n, twice));
                }
                refused("tend(EMPTY" + rest + ": no HIVE", LONG_NULL, x -> x.tend(EMPTY, n, twice));
                refused("tend(NO_SLOTS" + rest + ": no KEEPER", LONG_NULL, x -> x.tend(NO_SLOTS, n, twice));
                refused("tend(BARE_NARROW" + rest + ": no KEEPER, no ROW, once", LONG_NULL, x -> x.tend(BARE_NARROW, n, twice));
                refused("tend(STRIPPED" + rest + ": a FEEDER, no ROW", LONG_NULL, x -> x.tend(STRIPPED, n, twice));
            }
        }
    }

    private static void cell() {
        for (int v : new int[] {MIN, 0, MAX}) {
            for (int s : NO_HIVES) {
                refused("cell(" + s + ", -1, -1, " + v + "): CAST", LONG_CAST, x -> x.cell(s, -1, -1, v));
                refused("cell(" + s + ", 0, 0, " + v + "): CAST", LONG_CAST, x -> x.cell(s, 0, 0, v));
            }
            for (int at : new int[] {MIN, -1, 0, MAX}) {
                String rest = ", " + at + ", " + at + ", " + v + ")";
                refused("cell(EMPTY" + rest + ": no HIVE before INDEX", LONG_NULL, x -> x.cell(EMPTY, at, at, v));
                refused("cell(NARROW" + rest + ": no COMB before INDEX", LONG_NULL, x -> x.cell(NARROW, at, at, v));
                refused("cell(NO_SLOTS" + rest + ": no LINES", LONG_INDEX, x -> x.cell(NO_SLOTS, at, at, v));
            }
            for (int l : new int[] {MIN, -1, LINES, MAX}) {
                for (int c : new int[] {MIN, -1, 0, CELLS - 1, CELLS, MAX}) {
                    refused("cell(HIVE, " + l + ", " + c + ", " + v + "): LINE", LONG_INDEX, x -> x.cell(HIVE, l, c, v));
                }
            }
            // Where lines lie one behind another, CELL 3 of LINE 0 must not be CELL 0 of LINE 1.
            for (int l = 0; l < LINES; l++) {
                int line = l;
                for (int c : new int[] {MIN, -1, CELLS, 2 * CELLS - 1, MAX}) {
                    refused("cell(HIVE, " + line + ", " + c + ", " + v + "): CELL", LONG_INDEX, x -> x.cell(HIVE, line, c, v));
                }
            }
        }
    }

    private static void harvest() {
        for (int v : new int[] {1, MAX}) {
            for (int s : NO_HIVES) {
                refused("harvest(" + s + ", " + v + "): CAST", LONG_CAST, x -> x.harvest(s, v));
            }
            refused("harvest(EMPTY, " + v + "): no HIVE", LONG_NULL, x -> x.harvest(EMPTY, v));
            refused("harvest(STRIPPED, " + v + "): no ROW", LONG_NULL, x -> x.harvest(STRIPPED, v));
            refused("harvest(BARE_NARROW, " + v + "): no ROW", LONG_NULL, x -> x.harvest(BARE_NARROW, v));
        }
        for (int v : new int[] {MIN, -1, 0}) {
            for (int s : new int[] {HIVE, NARROW, STRIPPED, EMPTY, FRAME}) {
                bad("harvest(" + s + ", " + v + ")", LONG_BAD, x -> x.harvest(s, v));
            }
        }
    }

    private static void sound() {
        for (int s : NO_HIVES) {
            refused("sound(" + s + "): CAST", CAST, x -> x.sound(s));
        }
        refused("sound(EMPTY): no HIVE", NULL, x -> x.sound(EMPTY));
        refused("sound(NARROW): no ALARM", NULL, x -> x.sound(NARROW));
        refused("sound(BARE_NARROW): no ALARM", NULL, x -> x.sound(BARE_NARROW));
        refusedWithCode("sound(HIVE): RAISED", RAISED, 77, x -> x.sound(HIVE));
        refusedWithCode("sound(STRIPPED): RAISED", RAISED, -4, x -> x.sound(STRIPPED));
    }

    private static void told() {
        int[] sorts = new int[16];
        for (int s = 0; s < 16; s++) {
            sorts[s] = yard().sort(s);
        }
        // By sorts: the numbers that a THING has.
        int[][] has = {{0}, {0, 1}, {2, 3}, {4}, {4}, {5}, {6, 7}, {6, 7}};
        for (int s = 0; s < 16; s++) {
            int shelf = s;
            for (int w = 0; w < 8; w++) {
                int what = w;
                String call = "told(" + shelf + ", " + what + ")";
                if (sorts[shelf] == -2) {
                    refused(call + ": NOTHING", LONG_NULL, x -> x.told(shelf, what));
                } else if (!has(has[sorts[shelf]], what)) {
                    refused(call + ": CAST", LONG_CAST, x -> x.told(shelf, what));
                }
            }
            for (int what : new int[] {MIN, -1, 8, MAX}) {
                bad("told(" + shelf + ", " + what + ")", LONG_BAD, x -> x.told(shelf, what));
            }
        }
        refused("told(STRIPPED, 6): no ROW", LONG_NULL, x -> x.told(STRIPPED, 6));
        refused("told(BARE_NARROW, 6): no ROW", LONG_NULL, x -> x.told(BARE_NARROW, 6));
        refused("told(NARROW, 7): no COMB", LONG_NULL, x -> x.told(NARROW, 7));
        refused("told(BARE_NARROW, 7): no COMB", LONG_NULL, x -> x.told(BARE_NARROW, 7));
    }

    private static void count() {
        for (int what : new int[] {MIN, -1, 8, MAX}) {
            bad("count(" + what + ")", BAD, x -> x.count(what));
        }
    }
}
