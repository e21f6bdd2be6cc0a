/** Promises 1 to 14: long runs of calls, ordinary and wrong ones, each answer compared with the Model's. */
public final class ModelTest {
    private static final Due due = new Due();
    private static final int RUNS = 3000;
    private static final int CALLS = 512;
    private static final int[] VALUES = {0, 1, -1, 2, -3, 1000, Integer.MAX_VALUE, Integer.MIN_VALUE, 0x55555555};
    private static long seed = 20261115;
    private static final int[] compileKinds = new int[4];

    public static void main(String[] args) {
        for (int run = 0; run < RUNS; run++) {
            makeRun(run);
        }
        // A run that never compiles, or meets no fault, would compare next to nothing.
        for (int kind = 0; kind < compileKinds.length; kind++) {
            due.holds("enough compiles of kind " + kind, compileKinds[kind] > 100);
        }
        due.end();
    }

    /** A number 0 .. bound - 1, the same in every session. */
    private static int next(int bound) {
        seed = seed * 6364136223846793005L + 1442695040888963407L;
        return (int) ((seed >>> 33) % bound);
    }

    private static int between(int least, int greatest) {
        return least + next(greatest - least + 1);
    }

    private static int someInt() {
        return next(3) == 0 ? VALUES[next(VALUES.length)] : between(-50, 50);
    }

    /** Mostly in range, now and then just beside it or far from it. */
    private static int near(int least, int greatest) {
        int kind = next(40);
        if (kind == 0) {
            return least - 1;
        }
        if (kind == 1) {
            return greatest + 1;
        }
        return kind == 2 ? someInt() : between(least, Math.max(least, greatest));
    }

    private static void makeRun(int run) {
        int length = near(1, 24);
        StencilCompiler x = new StencilCompiler(length);
        Model m = new Model(length);
        // Runs differ in how wide they tap and build, so that faults and good pipelines both come up.
        int tapsWanted = next(4) == 0 ? 40 : between(1, 8);
        for (int call = 0; call < CALLS; call++) {
            due.part("run " + run + ", call " + call);
            boolean building = call < 2 * tapsWanted + 40 || next(12) == 0;
            if (building) {
                build(x, m, tapsWanted);
            } else if (next(10) < 3) {
                go(x, m);
            } else {
                ask(x, m);
            }
        }
    }

    private static void build(StencilCompiler x, Model m, int tapsWanted) {
        int last = m.count(0) - 1;
        int s = near(0, last);
        int kind = next(12 + tapsWanted);
        int a;
        int b;
        switch (kind) {
            case 0, 1:
                a = near(0, 23);
                b = someInt();
                due.is("input(" + a + ", " + b + ")", x.input(a, b), m.input(a, b));
                break;
            case 2, 3, 4:
                a = someInt();
                b = near(0, 3);
                due.is("stage(" + a + ", " + b + ")", x.stage(a, b), m.stage(a, b));
                break;
            case 5, 6, 7, 8:
                a = near(0, 2);
                due.is("mode(" + s + ", " + a + ")", x.mode(s, a), m.mode(s, a));
                break;
            case 9:
                a = near(1, 32);
                due.is("tile(" + a + ")", x.tile(a), m.tile(a));
                break;
            case 10, 11:
                s = next(3) == 0 ? s : last;
                a = near(1, 32);
                due.is("output(" + s + ", " + a + ")", x.output(s, a), m.output(s, a));
                break;
            default:
                tap(x, m, s);
        }
    }

    private static void tap(StencilCompiler x, Model m, int s) {
        int source = next(3) == 0 ? s - 1 : near(-1, s < 0 || s > 8 ? 0 : s - 1);
        int offset = near(-4, 4);
        int weight = someInt();
        due.is("tap(" + s + ", " + source + ", " + offset + ", " + weight + ")",
            x.tap(s, source, offset, weight), m.tap(s, source, offset, weight));
    }

    private static void go(StencilCompiler x, Model m) {
        if (next(2) == 0) {
            int want = m.compile();
            due.is("compile()", x.compile(), want);
            int kind = want >= 0 ? 0 : want == -100 ? 1 : want == -300 ? 2 : want <= -200 ? 3 : -1;
            if (kind >= 0) {
                compileKinds[kind]++;
            }
        } else {
            due.is("run()", x.run(), m.run());
        }
    }

    private static void ask(StencilCompiler x, Model m) {
        int s = near(0, m.count(0) - 1);
        int place;
        switch (next(5)) {
            case 0:
                place = near(0, 31);
                due.is("cell(" + place + ")", x.cell(place), m.cell(place));
                break;
            case 1:
                place = next(2) == 0 ? between(-10, 40) : near(-100, 100);
                due.is("at(" + s + ", " + place + ")", x.at(s, place), m.at(s, place));
                break;
            case 2:
                boolean end = next(2) == 0;
                due.is("region(" + s + ", " + end + ")", x.region(s, end), m.region(s, end));
                break;
            case 3:
                due.is("work(" + s + ")", x.work(s), m.work(s));
                break;
            default:
                int what = near(0, 6);
                due.is("count(" + what + ")", x.count(what), m.count(what));
        }
    }
}
