/** Promises 12 to 14: region, work and count. */
public final class QuestionsTest {
    private static final Due due = new Due();
    private static final int MIN = Integer.MIN_VALUE;
    private static final int MAX = Integer.MAX_VALUE;

    public static void main(String[] args) {
        region();
        farthestRegion();
        regionWithoutAnswer();
        work();
        workOfInlineUnderKept();
        workWithoutAnswer();
        counts();
        roomOfTiles();
        outputModeDoesNotMatter();
        countsWhenNotCompiled();
        due.end();
    }

    /** Stages 0 to 3: 1 and 2 over 0, 3 over 1, 2 and 0; stage 4 over 3, not used; the output is 3 with W 10. */
    private static StencilCompiler diamond() {
        StencilCompiler x = new StencilCompiler(8);
        for (int i = 0; i < 8; i++) {
            x.input(i, i * i);
        }
        for (int s = 0; s < 5; s++) {
            x.stage(s, 0);
        }
        x.tap(0, -1, 4, 1);
        x.tap(1, 0, -3, 1);
        x.tap(2, 0, 1, 2);
        x.tap(2, 0, 4, 2);
        x.tap(3, 1, -1, 1);
        x.tap(3, 2, 2, 1);
        x.tap(3, 2, 3, 1);
        x.tap(3, 0, 0, 1);
        x.tap(4, 3, 0, 1);
        x.output(3, 10);
        return x;
    }

    private static void isRegion(StencilCompiler x, int s, int first, int last) {
        due.is("region(" + s + ", false)", x.region(s, false), first);
        due.is("region(" + s + ", true)", x.region(s, true), last);
    }

    private static void region() {
        due.part("promise 12");
        StencilCompiler x = diamond();
        for (int schedule = 0; schedule < 3; schedule++) {
            x.mode(0, schedule);
            x.compile();
            isRegion(x, 0, -4, 16);
            isRegion(x, 1, -1, 8);
            isRegion(x, 2, 2, 12);
            isRegion(x, 3, 0, 9);
        }
    }

    private static void farthestRegion() {
        due.part("promise 12");
        StencilCompiler x = new StencilCompiler(24);
        for (int i = 0; i < 24; i++) {
            x.input(i, i + 1);
        }
        for (int s = 0; s < 8; s++) {
            x.stage(0, 0);
            x.tap(s, s - 1, -4, 1);
            x.tap(s, s - 1, 4, 1);
            x.mode(s, 1);
        }
        x.output(7, 32);
        due.is("compile()", x.compile(), 32 + 40 + 48 + 56 + 64 + 72 + 80 + 88);
        isRegion(x, 0, -28, 59);
        isRegion(x, 6, -4, 35);
        x.run();
        due.is("cell(0)", x.cell(0), x.at(6, -4) + x.at(6, 4));
        due.is("cell(31)", x.cell(31), x.at(6, 27) + x.at(6, 35));
        for (int s = 0; s < 7; s++) {
            x.mode(s, 2);
        }
        x.tile(32);
        due.is("compile() of tiled stages", x.compile(), 480);
        due.is("count(5)", x.count(5), 88);
        x.run();
        due.is("cell(31)", x.cell(31), x.at(6, 27) + x.at(6, 35));
    }

    private static void regionWithoutAnswer() {
        due.part("promise 12");
        StencilCompiler x = diamond();
        due.is("region(0, false) before compile", x.region(0, false), -1000);
        due.is("region(0, true) before compile", x.region(0, true), -1000);
        due.is("region(9, true) before compile", x.region(9, true), -1000);
        x.compile();
        int[] none = {MIN, -1, 4, 5, 8, MAX};
        for (int s : none) {
            due.is("region(" + s + ", false)", x.region(s, false), -2000);
            due.is("region(" + s + ", true)", x.region(s, true), -2000);
        }
        due.is("count(1) after region", x.count(1), 1);
        x.tile(3);
        due.is("region(0, false) after a change", x.region(0, false), -1000);
    }

    private static void areWorks(StencilCompiler x, int... works) {
        int sum = 0;
        for (int s = 0; s < works.length; s++) {
            sum += works[s];
        }
        due.is("compile()", x.compile(), sum);
        for (int s = 0; s < works.length; s++) {
            due.is("work(" + s + ")", x.work(s), works[s]);
        }
        due.is("count(6)", x.count(6), sum);
    }

    private static void work() {
        due.part("promise 13");
        StencilCompiler x = diamond();
        areWorks(x, 10 + 2 * 20 + 10, 10, 20, 10, 0);
        x.mode(0, 1);
        areWorks(x, 21, 10, 20, 10, 0);
        x.mode(0, 2);
        // Tiles of 4, 4 and 2 places need 15, 15 and 13 of stage 0.
        areWorks(x, 43, 10, 20, 10, 0);
        x.mode(2, 2);
        areWorks(x, 43, 10, 5 + 5 + 3, 10, 0);
    }

    private static void workOfInlineUnderKept() {
        due.part("promise 13");
        StencilCompiler x = diamond();
        x.mode(2, 1);
        areWorks(x, 10 + 10 + 2 * 11, 10, 11, 10, 0);
        x.mode(2, 2);
        areWorks(x, 10 + 10 + 2 * 13, 10, 13, 10, 0);
        x.mode(4, 1);
        x.output(2, 10);
        areWorks(x, 20, 0, 10, 0, 0);
    }

    private static void workWithoutAnswer() {
        due.part("promise 13");
        StencilCompiler x = diamond();
        due.is("work(0) before compile", x.work(0), StencilCompiler.STATE);
        due.is("work(4) before compile", x.work(4), StencilCompiler.STATE);
        due.is("work(5) before compile", x.work(5), StencilCompiler.REFUSED);
        due.is("work(-1) before compile", x.work(-1), StencilCompiler.REFUSED);
        x.compile();
        due.is("work(4), not used", x.work(4), 0);
        int[] none = {MIN, -1, 5, 8, MAX};
        for (int s : none) {
            due.is("work(" + s + ")", x.work(s), StencilCompiler.REFUSED);
        }
        due.is("count(1) after work", x.count(1), 1);
    }

    private static void areCounts(StencilCompiler x, int... counts) {
        for (int what = 0; what < counts.length; what++) {
            due.is("count(" + what + ")", x.count(what), counts[what]);
        }
    }

    private static void counts() {
        due.part("promise 14");
        StencilCompiler x = diamond();
        x.compile();
        areCounts(x, 5, 1, 0, 4, 3, 0, 100);
        x.mode(0, 1);
        x.compile();
        areCounts(x, 5, 1, 21, 4, 3, 0, 61);
        x.mode(1, 1);
        x.mode(2, 2);
        x.compile();
        areCounts(x, 5, 1, 21 + 10 + 5, 4, 3, 5, 54);
        int[] others = {MIN, -1, 7, 8, MAX};
        for (int what : others) {
            due.is("count(" + what + ")", x.count(what), StencilCompiler.REFUSED);
        }
        due.is("count(1) after count", x.count(1), 1);
    }

    private static void roomOfTiles() {
        due.part("promise 14");
        StencilCompiler x = diamond();
        x.mode(0, 2);
        x.mode(1, 2);
        x.mode(2, 2);
        x.tile(32);
        x.compile();
        areCounts(x, 5, 1, 21 + 10 + 11, 4, 1, 21, 52);
        x.tile(1);
        x.compile();
        areCounts(x, 5, 1, 12 + 1 + 2, 4, 10, 12, 160);
        x.tile(3);
        x.compile();
        areCounts(x, 5, 1, 14 + 3 + 4, 4, 4, 14, 54 + 10 + 14 + 10);
    }

    private static void outputModeDoesNotMatter() {
        due.part("promise 14");
        for (int mode = 0; mode < 3; mode++) {
            StencilCompiler x = diamond();
            x.mode(3, mode);
            x.mode(4, 2 - mode);
            x.compile();
            areCounts(x, 5, 1, 0, 4, 3, 0, 100);
            due.is("work(3)", x.work(3), 10);
        }
    }

    private static void countsWhenNotCompiled() {
        due.part("promise 14");
        StencilCompiler x = diamond();
        x.mode(0, 1);
        x.mode(2, 2);
        areCounts(x, 5, 0, 0, 0, 0, 0, 0);
        x.compile();
        x.run();
        x.input(0, 0);
        areCounts(x, 5, 0, 0, 0, 0, 0, 0);
        due.is("count(7)", x.count(7), StencilCompiler.REFUSED);
        due.is("count(-1)", x.count(-1), StencilCompiler.REFUSED);
    }
}
