import java.util.Random;

// Mixed runs of 512 calls beside a yard that lets the Java machine itself refuse: its rows are arrays of
// Frame or Brood, its casts are real, and the kind of a refusal is read from what the machine throws.
public final class HiveYardAgainstMachine {
    private static final int RUNS = 4000;
    private static final int CALLS = 512;
    private static final int METHODS = 20;
    private static final int SHOWN = 20;

    private static int wrong = 0;

    public static void main(String[] args) {
        int[] kinds = new int[8];
        for (int run = 0; run < RUNS; run++) {
            oneRun(run, kinds);
        }
        for (int kind = 1; kind <= 6; kind++) {
            if (kinds[kind] == 0) {
                wrong++;
                System.out.println("no run was refused by kind " + kind);
            }
        }
        System.out.println(wrong == 0 ? "all runs are as the machine's" : wrong + " answers are not the machine's");
        if (wrong != 0) {
            System.exit(1);
        }
    }

    private static void oneRun(int run, int[] kinds) {
        Random random = new Random(run);
        HiveYard yard = new HiveYard();
        MachineYard machine = new MachineYard();
        for (int n = 0; n < CALLS; n++) {
            Call call = new Call(random);
            long got = call.on(yard);
            long want = call.on(machine);
            if (got != want && ++wrong <= SHOWN) {
                System.out.println("run " + run + ", call " + n + ": " + call + " answered " + got + ", due is " + want);
            }
        }
        // Asked of the other yard, since this one has had its 512 calls.
        for (int kind = 1; kind <= 6; kind++) {
            kinds[kind] += machine.counts[kind];
        }
    }

    private static final class Call {
        final int method;
        final int a;
        final int b;
        final int c;
        final int d;
        final boolean flag;

        Call(Random random) {
            method = random.nextInt(METHODS);
            a = shelf(random);
            switch (method) {
                case 0: b = random.nextInt(40) == 0 ? 6 : random.nextInt(6); c = number(random); break;
                case 1: b = size(random, 30); c = 0; break;
                case 2: case 18: b = shelf(random); c = 0; break;
                case 4: b = small(random, 3); c = shelf(random); break;
                case 5: b = size(random, 30); c = 0; break;
                case 7: b = size(random, 12); c = size(random, 12); break;
                case 8: case 9: b = small(random, 4); c = shelf(random); break;
                case 10: case 11: case 13: b = small(random, 4); c = random.nextInt(3) == 0 ? number(random) : small(random, 4); break;
                case 17: case 19: b = small(random, 8); c = 0; break;
                default: b = number(random); c = 0; break;
            }
            d = number(random);
            flag = random.nextBoolean();
        }

        // Few shelves, so that things meet; at times one that is not there.
        private static int shelf(Random random) {
            int draw = random.nextInt(200);
            if (draw == 0) return -1;
            if (draw == 1) return 16;
            return draw < 150 ? random.nextInt(8) : random.nextInt(16);
        }

        private static int small(Random random, int bound) {
            int draw = random.nextInt(30);
            return draw == 0 ? -1 : draw == 1 ? bound : random.nextInt(bound);
        }

        private static int size(Random random, int most) {
            int draw = random.nextInt(20);
            return draw == 0 ? -1 : draw == 1 ? most + 1 : draw == 2 ? most : random.nextInt(6);
        }

        private static int number(Random random) {
            int draw = random.nextInt(12);
            return draw == 0 ? Integer.MAX_VALUE : draw == 1 ? Integer.MIN_VALUE : draw == 2 ? random.nextInt() : random.nextInt(30) - 5;
        }

        long on(HiveYard x) {
            switch (method) {
                case 0: return x.set(a, b, c);
                case 1: return x.hive(a, flag, b);
                case 2: return x.share(a, b);
                case 3: return x.clear(a);
                case 4: return x.give(a, b, c);
                case 5: return x.row(a, b);
                case 6: return x.strip(a);
                case 7: return x.comb(a, b, c);
                case 8: return x.put(a, b, c);
                case 9: return x.take(a, b, c);
                case 10: return x.honey(a, b, c);
                case 11: return x.lay(a, b, c);
                case 12: return x.tend(a, b, flag);
                case 13: return x.cell(a, b, c, d);
                case 14: return x.harvest(a, b);
                case 15: return x.sound(a);
                case 16: return x.sort(a);
                case 17: return x.told(a, b);
                case 18: return x.same(a, b);
                default: return x.count(b);
            }
        }

        long on(MachineYard x) {
            boolean isLong = method >= 10 && method <= 14 || method == 17;
            try {
                long bad = isLong ? Long.MIN_VALUE : -1;
                return isBad() ? bad : x.answer(this);
            } catch (RuntimeException e) {
                int kind = MachineYard.kind(e);
                x.counts[0]++;
                x.counts[kind]++;
                return (isLong ? Long.MIN_VALUE + 100 : 0) - 10 - kind;
            }
        }

        private boolean isBad() {
            boolean noShelf = a < 0 || a > 15;
            switch (method) {
                case 0: return noShelf || b < 0 || b > 5;
                case 1: case 5: return noShelf || b > 30;
                case 2: case 18: return noShelf || b < 0 || b > 15;
                case 4: return noShelf || b < 0 || b > 2 || c < 0 || c > 15;
                case 7: return noShelf || b > 12 || c > 12;
                case 8: case 9: return noShelf || c < 0 || c > 15;
                case 14: return noShelf || b < 1;
                case 17: return noShelf || b < 0 || b > 7;
                case 19: return b < 0 || b > 7;
                default: return noShelf;
            }
        }

        @Override
        public String toString() {
            return "method " + method + " (" + a + ", " + b + ", " + c + ", " + d + ", " + flag + ")";
        }
    }

    private static class Frame { int honey; }
    private static final class Brood extends Frame { int eggs; }
    private static final class Queen { int lays; int age; }
    private static class Keeper { int care; }
    private static final class Smoker extends Keeper { }
    private static final class Feeder extends Keeper { }
    private static final class Alarm { int code; }
    private static class Hive { Frame[] row; int[][] comb; Queen queen; Keeper keeper; Alarm alarm; }
    private static final class NarrowHive extends Hive { }
    private static final class Raised extends RuntimeException {
        private static final long serialVersionUID = 1L;
    }

    private static final class MachineYard {
        final Object[] on = new Object[16];
        final int[] counts = new int[8];

        static int kind(RuntimeException e) {
            if (e instanceof NullPointerException) return 1;
            if (e instanceof NegativeArraySizeException) return 2;
            if (e instanceof ArrayIndexOutOfBoundsException) return 3;
            if (e instanceof ArrayStoreException) return 4;
            if (e instanceof ClassCastException) return 5;
            if (e instanceof Raised) return 6;
            throw e;
        }

        long answer(Call k) {
            switch (k.method) {
                case 0: on[k.a] = thing(k.b, k.c); return k.b;
                case 1: return newHive(k);
                case 2: on[k.a] = on[k.b]; return one(on[k.a]);
                case 3: { int had = one(on[k.a]); on[k.a] = null; return had; }
                case 4: return newPart(k);
                case 5: { Hive h = (Hive) on[k.a]; Frame[] row = h instanceof NarrowHive ? new Brood[k.b] : new Frame[k.b]; h.row = row; return k.b; }
                case 6: { Hive h = (Hive) on[k.a]; int had = h.row.length; h.row = null; return had; }
                case 7: { Hive h = (Hive) on[k.a]; int[][] comb = new int[k.b][k.c]; h.comb = comb; return k.b; }
                case 8: { Hive h = (Hive) on[k.a]; Frame f = (Frame) on[k.c]; h.row[k.b] = f; return one(f); }
                case 9: { Hive h = (Hive) on[k.a]; Frame f = h.row[k.b]; h.row[k.b] = null; on[k.c] = f; return one(f); }
                case 10: return ((Hive) on[k.a]).row[k.b].honey += k.c;
                case 11: return eggs(k);
                case 12: { Hive h = (Hive) on[k.a]; int n = tended(h, k.b); return k.flag ? tended(h, n) : n; }
                case 13: { Hive h = (Hive) on[k.a]; int was = h.comb[k.b][k.c]; h.comb[k.b][k.c] = k.d; return was; }
                case 14: return harvested((Hive) on[k.a], k.b);
                case 15: { counts[7] = ((Hive) on[k.a]).alarm.code; throw new Raised(); }
                case 16: return sortOf(on[k.a]);
                case 17: return number(on[k.a], k.b);
                case 18: return on[k.a] == on[k.b] ? 1 : 0;
                default: return counts[k.b];
            }
        }

        private static int one(Object thing) {
            return thing == null ? 0 : 1;
        }

        private static Object thing(int sort, int v) {
            switch (sort) {
                case 0: { Frame f = new Frame(); f.honey = v; return f; }
                case 1: { Brood f = new Brood(); f.honey = v; return f; }
                case 2: { Queen q = new Queen(); q.lays = v; return q; }
                case 3: { Smoker s = new Smoker(); s.care = v; return s; }
                case 4: { Feeder s = new Feeder(); s.care = v; return s; }
                default: { Alarm s = new Alarm(); s.code = v; return s; }
            }
        }

        private int newHive(Call k) {
            Hive h = k.flag ? new NarrowHive() : new Hive();
            h.row = k.flag ? new Brood[k.b] : new Frame[k.b];
            on[k.a] = h;
            return k.b;
        }

        private int newPart(Call k) {
            Hive h = (Hive) on[k.a];
            Object part = on[k.c];
            if (k.b == 0) {
                Queen q = (Queen) part;
                h.queen = q;
            } else if (k.b == 1) {
                Keeper s = (Keeper) part;
                h.keeper = s;
            } else {
                Alarm s = (Alarm) part;
                h.alarm = s;
            }
            return one(part);
        }

        private int eggs(Call k) {
            Hive h = (Hive) on[k.a];
            Brood brood = (Brood) h.row[k.b];
            int more = k.c * h.queen.lays;
            brood.eggs += more;
            h.queen.age++;
            return brood.eggs;
        }

        private static int tended(Hive h, int n) {
            // Read first, so that the machine refuses where there is no keeper.
            int care = h.keeper.care;
            if (h.keeper instanceof Smoker) {
                return h.keeper.care = care + n;
            }
            int had = 0;
            for (Frame f : h.row) {
                if (f != null) {
                    f.honey += n;
                    had++;
                }
            }
            return had + care;
        }

        private static int harvested(Hive h, int v) {
            int all = 0;
            for (Frame f : h.row) {
                if (f != null && f.honey >= v) {
                    f.honey -= v;
                    all += v;
                }
            }
            return all;
        }

        private static int sortOf(Object t) {
            if (t == null) return -2;
            Class<?>[] sorts = {Frame.class, Brood.class, Queen.class, Smoker.class, Feeder.class, Alarm.class, Hive.class, NarrowHive.class};
            int sort = 0;
            while (t.getClass() != sorts[sort]) {
                sort++;
            }
            return sort;
        }

        private static int number(Object t, int what) {
            switch (what) {
                case 0: return ((Frame) t).honey;
                case 1: return ((Brood) t).eggs;
                case 2: return ((Queen) t).lays;
                case 3: return ((Queen) t).age;
                case 4: return ((Keeper) t).care;
                case 5: return ((Alarm) t).code;
                case 6: return ((Hive) t).row.length;
                default: return ((Hive) t).comb.length;
            }
        }
    }
}
