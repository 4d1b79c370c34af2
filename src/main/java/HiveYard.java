/**
 * A yard of hives: sixteen shelves, each with a thing or nothing. What cannot be done is refused by a
 * kind, as the Java machine would refuse it, but every refusal here is found by a test beforehand.
 */
public final class HiveYard {
    public static final int BAD = -1;

    private static final long BAD_LONG = -9223372036854775808L;
    private static final int REFUSAL = -10;
    private static final long REFUSAL_LONG = BAD_LONG + 100 + REFUSAL;

    private static final int SHELVES = 16;
    private static final int MOST_SLOTS = 30;
    private static final int MOST_COMB = 12;

    private static final int ALL_KINDS = 0;
    private static final int NULL = 1;
    private static final int SIZE = 2;
    private static final int INDEX = 3;
    private static final int STORE = 4;
    private static final int CAST = 5;
    private static final int RAISED = 6;
    private static final int LAST_CODE = 7;

    private static final int FRAME = 0;
    private static final int BROOD = 1;
    private static final int QUEEN = 2;
    private static final int SMOKER = 3;
    private static final int FEEDER = 4;
    private static final int ALARM = 5;
    private static final int HIVE = 6;
    private static final int NARROW_HIVE = 7;
    private static final int NO_SORT = -2;

    private static final int QUEEN_PART = 0;
    private static final int KEEPER_PART = 1;
    private static final int ALARM_PART = 2;

    private static final int HONEY_TOLD = 0;
    private static final int EGGS_TOLD = 1;
    private static final int LAYS_TOLD = 2;
    private static final int AGE_TOLD = 3;
    private static final int CARE_TOLD = 4;
    private static final int CODE_TOLD = 5;
    private static final int SLOTS_TOLD = 6;
    private static final int LINES_TOLD = 7;

    private final Thing[] shelves;
    private final int[] refusals;
    private int lastCode;

    public HiveYard() {
        shelves = new Thing[SHELVES];
        refusals = new int[RAISED + 1];
        lastCode = 0;
    }

    public int set(int shelf, int sort, int v) {
        if (!isShelf(shelf) || sort < FRAME || sort > ALARM) {
            return BAD;
        }
        shelves[shelf] = newThing(sort, v);
        return sort;
    }

    public int hive(int shelf, boolean narrow, int n) {
        if (!isShelf(shelf) || n > MOST_SLOTS) {
            return BAD;
        }
        if (n < 0) {
            return refuse(SIZE);
        }
        shelves[shelf] = new Hive(narrow, new Frame[n]);
        return n;
    }

    public int share(int shelf, int from) {
        if (!isShelf(shelf) || !isShelf(from)) {
            return BAD;
        }
        Thing thing = shelves[from];
        shelves[shelf] = thing;
        return oneIfThing(thing);
    }

    public int clear(int shelf) {
        if (!isShelf(shelf)) {
            return BAD;
        }
        Thing had = shelves[shelf];
        shelves[shelf] = null;
        return oneIfThing(had);
    }

    public int give(int shelf, int what, int from) {
        if (!isShelf(shelf) || !isShelf(from) || what < QUEEN_PART || what > ALARM_PART) {
            return BAD;
        }
        Thing part = shelves[from];
        if (isNoHive(shelves[shelf]) || isNoPart(part, what)) {
            return refuse(CAST);
        }
        Hive hive = asHive(shelves[shelf]);
        if (hive == null) {
            return refuse(NULL);
        }
        hive.changePart(what, part);
        return oneIfThing(part);
    }

    public int row(int shelf, int n) {
        if (!isShelf(shelf) || n > MOST_SLOTS) {
            return BAD;
        }
        if (isNoHive(shelves[shelf])) {
            return refuse(CAST);
        }
        if (n < 0) {
            return refuse(SIZE);
        }
        Hive hive = asHive(shelves[shelf]);
        if (hive == null) {
            return refuse(NULL);
        }
        hive.row = new Frame[n];
        return n;
    }

    public int strip(int shelf) {
        if (!isShelf(shelf)) {
            return BAD;
        }
        Hive hive = asHive(shelves[shelf]);
        if (hive == null || hive.row == null) {
            return refuse(castOrNull(shelves[shelf]));
        }
        int slots = hive.row.length;
        hive.row = null;
        return slots;
    }

    public int comb(int shelf, int n, int m) {
        if (!isShelf(shelf) || n > MOST_COMB || m > MOST_COMB) {
            return BAD;
        }
        if (isNoHive(shelves[shelf])) {
            return refuse(CAST);
        }
        if (n < 0 || m < 0) {
            return refuse(SIZE);
        }
        Hive hive = asHive(shelves[shelf]);
        if (hive == null) {
            return refuse(NULL);
        }
        hive.comb = new Comb(n, m);
        return n;
    }

    public int put(int shelf, int i, int from) {
        if (!isShelf(shelf) || !isShelf(from)) {
            return BAD;
        }
        Thing thing = shelves[from];
        Frame frame = asFrame(thing);
        if (isNoHive(shelves[shelf]) || (thing != null && frame == null)) {
            return refuse(CAST);
        }
        Hive hive = asHive(shelves[shelf]);
        if (hive == null || hive.row == null) {
            return refuse(NULL);
        }
        if (!isIndex(i, hive.row.length)) {
            return refuse(INDEX);
        }
        if (!hive.canHold(frame)) {
            return refuse(STORE);
        }
        hive.row[i] = frame;
        return oneIfThing(frame);
    }

    public int take(int shelf, int i, int to) {
        if (!isShelf(shelf) || !isShelf(to)) {
            return BAD;
        }
        Frame[] row = rowOf(asHive(shelves[shelf]));
        if (row == null) {
            return refuse(castOrNull(shelves[shelf]));
        }
        if (!isIndex(i, row.length)) {
            return refuse(INDEX);
        }
        Frame frame = row[i];
        row[i] = null;
        shelves[to] = frame;
        return oneIfThing(frame);
    }

    public long honey(int shelf, int i, int v) {
        if (!isShelf(shelf)) {
            return BAD_LONG;
        }
        Frame[] row = rowOf(asHive(shelves[shelf]));
        if (row == null) {
            return refuseLong(castOrNull(shelves[shelf]));
        }
        if (!isIndex(i, row.length)) {
            return refuseLong(INDEX);
        }
        Frame frame = row[i];
        if (frame == null) {
            return refuseLong(NULL);
        }
        frame.honey += v;
        return frame.honey;
    }

    public long lay(int shelf, int i, int n) {
        if (!isShelf(shelf)) {
            return BAD_LONG;
        }
        Hive hive = asHive(shelves[shelf]);
        if (hive == null || hive.row == null) {
            return refuseLong(castOrNull(shelves[shelf]));
        }
        Frame[] row = hive.row;
        if (!isIndex(i, row.length)) {
            return refuseLong(INDEX);
        }
        Brood brood = asBrood(row[i]);
        if (row[i] != null && brood == null) {
            return refuseLong(CAST);
        }
        Queen queen = hive.queen;
        if (queen == null || brood == null) {
            return refuseLong(NULL);
        }
        brood.eggs += n * queen.lays;
        queen.age++;
        return brood.eggs;
    }

    public long tend(int shelf, int n, boolean twice) {
        if (!isShelf(shelf)) {
            return BAD_LONG;
        }
        Hive hive = asHive(shelves[shelf]);
        if (hive == null || hive.keeper == null) {
            return refuseLong(castOrNull(shelves[shelf]));
        }
        Keeper keeper = hive.keeper;
        if (!keeper.canCareFor(hive.row)) {
            return refuseLong(NULL);
        }
        int answer = keeper.careFor(hive.row, n);
        if (twice) {
            answer = keeper.careFor(hive.row, answer);
        }
        return answer;
    }

    public long cell(int shelf, int l, int c, int v) {
        if (!isShelf(shelf)) {
            return BAD_LONG;
        }
        Hive hive = asHive(shelves[shelf]);
        if (hive == null || hive.comb == null) {
            return refuseLong(castOrNull(shelves[shelf]));
        }
        Comb comb = hive.comb;
        if (!isIndex(l, comb.lines) || !isIndex(c, comb.width)) {
            return refuseLong(INDEX);
        }
        return comb.exchange(l, c, v);
    }

    public long harvest(int shelf, int v) {
        if (!isShelf(shelf) || v < 1) {
            return BAD_LONG;
        }
        Frame[] row = rowOf(asHive(shelves[shelf]));
        if (row == null) {
            return refuseLong(castOrNull(shelves[shelf]));
        }
        // An int, since the document lets all numbers wrap as ints.
        int went = 0;
        for (int i = 0; i < row.length; i++) {
            Frame frame = row[i];
            if (frame != null && frame.honey >= v) {
                frame.honey -= v;
                went += v;
            }
        }
        return went;
    }

    public int sound(int shelf) {
        if (!isShelf(shelf)) {
            return BAD;
        }
        Hive hive = asHive(shelves[shelf]);
        if (hive == null || hive.alarm == null) {
            return refuse(castOrNull(shelves[shelf]));
        }
        lastCode = hive.alarm.code;
        return refuse(RAISED);
    }

    public int sort(int shelf) {
        if (!isShelf(shelf)) {
            return BAD;
        }
        Thing thing = shelves[shelf];
        return thing == null ? NO_SORT : thing.sort;
    }

    public long told(int shelf, int what) {
        if (!isShelf(shelf) || what < HONEY_TOLD || what > LINES_TOLD) {
            return BAD_LONG;
        }
        Thing thing = shelves[shelf];
        if (thing == null) {
            return refuseLong(NULL);
        }
        switch (what) {
            case HONEY_TOLD:
                return thing instanceof Frame frame ? frame.honey : refuseLong(CAST);
            case EGGS_TOLD:
                return thing instanceof Brood brood ? brood.eggs : refuseLong(CAST);
            case LAYS_TOLD:
                return thing instanceof Queen queen ? queen.lays : refuseLong(CAST);
            case AGE_TOLD:
                return thing instanceof Queen queen ? queen.age : refuseLong(CAST);
            case CARE_TOLD:
                return thing instanceof Keeper keeper ? keeper.care : refuseLong(CAST);
            case CODE_TOLD:
                return thing instanceof Alarm alarm ? alarm.code : refuseLong(CAST);
            default:
                return thing instanceof Hive hive ? lengthTold(hive, what) : refuseLong(CAST);
        }
    }

    public int same(int shelf, int other) {
        if (!isShelf(shelf) || !isShelf(other)) {
            return BAD;
        }
        return shelves[shelf] == shelves[other] ? 1 : 0;
    }

    public int count(int what) {
        if (what < ALL_KINDS || what > LAST_CODE) {
            return BAD;
        }
        return what == LAST_CODE ? lastCode : refusals[what];
    }

    private long lengthTold(Hive hive, int what) {
        if (what == SLOTS_TOLD) {
            return hive.row == null ? refuseLong(NULL) : hive.row.length;
        }
        return hive.comb == null ? refuseLong(NULL) : hive.comb.lines;
    }

    private int refuse(int kind) {
        refusals[ALL_KINDS]++;
        refusals[kind]++;
        return REFUSAL - kind;
    }

    private long refuseLong(int kind) {
        refuse(kind);
        return REFUSAL_LONG - kind;
    }

    private static boolean isShelf(int shelf) {
        return isIndex(shelf, SHELVES);
    }

    private static boolean isIndex(int i, int length) {
        return i >= 0 && i < length;
    }

    private static int oneIfThing(Thing thing) {
        return thing == null ? 0 : 1;
    }

    private static Thing newThing(int sort, int v) {
        switch (sort) {
            case FRAME:
                return new Frame(FRAME, v);
            case BROOD:
                return new Brood(v);
            case QUEEN:
                return new Queen(v);
            case SMOKER:
                return new Smoker(v);
            case FEEDER:
                return new Feeder(v);
            default:
                return new Alarm(v);
        }
    }

    private static Hive asHive(Thing thing) {
        return thing instanceof Hive hive ? hive : null;
    }

    private static Frame[] rowOf(Hive hive) {
        return hive == null ? null : hive.row;
    }

    private static Frame asFrame(Thing thing) {
        return thing instanceof Frame frame ? frame : null;
    }

    private static Brood asBrood(Thing thing) {
        return thing instanceof Brood brood ? brood : null;
    }

    // NOTHING is no CAST: it is looked at later, as NULL.
    private static boolean isNoHive(Thing thing) {
        return thing != null && !(thing instanceof Hive);
    }

    // Why a hive, or a part of it, is not there: it is a CAST only where another thing stands.
    private static int castOrNull(Thing thing) {
        return isNoHive(thing) ? CAST : NULL;
    }

    private static boolean isNoPart(Thing thing, int what) {
        if (thing == null) {
            return false;
        }
        switch (what) {
            case QUEEN_PART:
                return !(thing instanceof Queen);
            case KEEPER_PART:
                return !(thing instanceof Keeper);
            default:
                return !(thing instanceof Alarm);
        }
    }

    private abstract static class Thing {
        final int sort;

        Thing(int sort) {
            this.sort = sort;
        }
    }

    private static class Frame extends Thing {
        int honey;

        Frame(int sort, int honey) {
            super(sort);
            this.honey = honey;
        }
    }

    private static final class Brood extends Frame {
        int eggs;

        Brood(int honey) {
            super(BROOD, honey);
            eggs = 0;
        }
    }

    private static final class Queen extends Thing {
        final int lays;
        int age;

        Queen(int lays) {
            super(QUEEN);
            this.lays = lays;
            age = 0;
        }
    }

    private abstract static class Keeper extends Thing {
        int care;

        Keeper(int sort, int care) {
            super(sort);
            this.care = care;
        }

        abstract boolean canCareFor(Frame[] row);

        // Asked only where canCareFor(row) holds: a row may be null for a smoker, never for a feeder.
        abstract int careFor(Frame[] row, int n);
    }

    private static final class Smoker extends Keeper {
        Smoker(int care) {
            super(SMOKER, care);
        }

        boolean canCareFor(Frame[] row) {
            return true;
        }

        int careFor(Frame[] row, int n) {
            care += n;
            return care;
        }
    }

    private static final class Feeder extends Keeper {
        Feeder(int care) {
            super(FEEDER, care);
        }

        boolean canCareFor(Frame[] row) {
            return row != null;
        }

        int careFor(Frame[] row, int n) {
            int fed = 0;
            for (int i = 0; i < row.length; i++) {
                Frame frame = row[i];
                if (frame != null) {
                    frame.honey += n;
                    fed++;
                }
            }
            return fed + care;
        }
    }

    private static final class Alarm extends Thing {
        final int code;

        Alarm(int code) {
            super(ALARM);
            this.code = code;
        }
    }

    private static final class Hive extends Thing {
        Frame[] row;
        Comb comb;
        Queen queen;
        Keeper keeper;
        Alarm alarm;

        Hive(boolean narrow, Frame[] row) {
            super(narrow ? NARROW_HIVE : HIVE);
            this.row = row;
        }

        boolean canHold(Frame frame) {
            return sort == HIVE || frame == null || frame instanceof Brood;
        }

        void changePart(int what, Thing part) {
            switch (what) {
                case QUEEN_PART:
                    queen = part instanceof Queen newQueen ? newQueen : null;
                    break;
                case KEEPER_PART:
                    keeper = part instanceof Keeper newKeeper ? newKeeper : null;
                    break;
                default:
                    alarm = part instanceof Alarm newAlarm ? newAlarm : null;
                    break;
            }
        }
    }

    private static final class Comb {
        final int lines;
        final int width;
        // One array for all lines, so that a comb is two objects and not one a line.
        private final int[] cells;

        Comb(int lines, int width) {
            this.lines = lines;
            this.width = width;
            cells = new int[lines * width];
        }

        int exchange(int line, int cell, int v) {
            int at = line * width + cell;
            int was = cells[at];
            cells[at] = v;
            return was;
        }
    }
}
