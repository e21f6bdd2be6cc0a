/** Promises 1 to 7: a new object and the calls that build a pipeline. */
public final class BuildingTest {
    private static final Due due = new Due();
    private static final int MIN = Integer.MIN_VALUE;
    private static final int MAX = Integer.MAX_VALUE;

    public static void main(String[] args) {
        newObject();
        lengthIsClamped();
        input();
        inputGivesTheNearestCell();
        stage();
        finishes();
        tap();
        mode();
        tile();
        output();
        everyChangeUndoesCompiled();
        refusedAndFullChangeNothing();
        due.end();
    }

    private static void newObject() {
        due.part("promise 1");
        StencilCompiler x = new StencilCompiler(5);
        for (int what = 0; what <= 6; what++) {
            due.is("count(" + what + ")", x.count(what), 0);
        }
        due.is("compile()", x.compile(), -100);
        due.is("run()", x.run(), StencilCompiler.STATE);
        due.is("cell(0)", x.cell(0), StencilCompiler.NONE);
        due.is("at(0, 0)", x.at(0, 0), StencilCompiler.NONE);
        due.is("tap(0, -1, 0, 1)", x.tap(0, -1, 0, 1), StencilCompiler.REFUSED);
        due.is("mode(0, 0)", x.mode(0, 0), StencilCompiler.REFUSED);
        due.is("output(0, 1)", x.output(0, 1), StencilCompiler.REFUSED);
        Pipelines.addStage(x, -1);
        for (int place = -2; place < 7; place++) {
            due.is("at(0, " + place + ") over a new input", x.at(0, place), 0);
        }
        x.output(0, 8);
        x.compile();
        due.is("count(4) with the first tile of 4 and width 8", x.count(4), 2);
        x.output(0, 9);
        x.compile();
        due.is("count(4) with the first tile of 4 and width 9", x.count(4), 3);
    }

    private static void lengthIsClamped() {
        due.part("promise 1");
        int[] lengths = {MIN, -1, 0, 1, 2, 23, 24, 25, MAX};
        int[] clamped = {1, 1, 1, 1, 2, 23, 24, 24, 24};
        for (int k = 0; k < lengths.length; k++) {
            StencilCompiler x = new StencilCompiler(lengths[k]);
            due.is("length " + lengths[k] + ": last cell", x.input(clamped[k] - 1, 7), StencilCompiler.DONE);
            due.is("length " + lengths[k] + ": one more", x.input(clamped[k], 7), StencilCompiler.REFUSED);
        }
    }

    private static void input() {
        due.part("promise 2");
        StencilCompiler x = new StencilCompiler(3);
        due.is("input(0, MIN)", x.input(0, MIN), StencilCompiler.DONE);
        due.is("input(2, MAX)", x.input(2, MAX), StencilCompiler.DONE);
        due.is("input(1, 1)", x.input(1, 1), StencilCompiler.DONE);
        due.is("input(1, 2) again", x.input(1, 2), StencilCompiler.DONE);
        due.is("input(-1, 1)", x.input(-1, 1), StencilCompiler.REFUSED);
        due.is("input(3, 1)", x.input(3, 1), StencilCompiler.REFUSED);
        due.is("input(MIN, 1)", x.input(MIN, 1), StencilCompiler.REFUSED);
        due.is("input(MAX, 1)", x.input(MAX, 1), StencilCompiler.REFUSED);
        Pipelines.addStage(x, -1);
        due.is("at(0, 0)", x.at(0, 0), MIN);
        due.is("at(0, 1)", x.at(0, 1), 2);
        due.is("at(0, 2)", x.at(0, 2), MAX);
    }

    private static void inputGivesTheNearestCell() {
        due.part("promise 2");
        StencilCompiler x = new StencilCompiler(3);
        x.input(0, 11);
        x.input(1, 12);
        x.input(2, 13);
        Pipelines.addStage(x, -1);
        due.is("at(0, -1)", x.at(0, -1), 11);
        due.is("at(0, -100)", x.at(0, -100), 11);
        due.is("at(0, 3)", x.at(0, 3), 13);
        due.is("at(0, 100)", x.at(0, 100), 13);
    }

    private static void stage() {
        due.part("promise 3");
        StencilCompiler x = new StencilCompiler(1);
        due.is("stage(0, -1)", x.stage(0, -1), StencilCompiler.REFUSED);
        due.is("stage(0, 4)", x.stage(0, 4), StencilCompiler.REFUSED);
        for (int s = 0; s < 8; s++) {
            due.is("stage(" + s + ", " + s % 4 + ")", x.stage(s, s % 4), s);
            due.is("count(0)", x.count(0), s + 1);
        }
        due.is("stage(0, 0), the ninth", x.stage(0, 0), StencilCompiler.FULL);
        due.is("stage(0, 4), the ninth", x.stage(0, 4), StencilCompiler.REFUSED);
        due.is("stage(0, MIN), the ninth", x.stage(0, MIN), StencilCompiler.REFUSED);
        due.is("count(0)", x.count(0), 8);
        due.is("at(4, 0), a constant without taps", x.at(4, 0), 4);
        newStageIsInline();
    }

    private static void newStageIsInline() {
        StencilCompiler x = new StencilCompiler(1);
        Pipelines.addStage(x);
        Pipelines.addStage(x, 0, 0);
        x.output(1, 4);
        due.is("compile() with an inline source", x.compile(), 12);
        due.is("count(2)", x.count(2), 0);
    }

    private static void finishes() {
        due.part("promise 3");
        int[] constants = {0, 1, 7, -1, -7, -8, MAX, MIN};
        long[][] finished = {
            {0, 1, 7, -1, -7, -8, MAX, MIN},
            {0, 1, 7, 0, 0, 0, MAX, 0},
            {0, 0, 3, -1, -4, -4, 1073741823, -1073741824},
            {0, 1, 7, 1, 7, 8, MAX, MIN},
        };
        for (int finish = 0; finish < 4; finish++) {
            StencilCompiler x = new StencilCompiler(1);
            for (int k = 0; k < constants.length; k++) {
                int s = x.stage(constants[k], finish);
                due.is("at of stage(" + constants[k] + ", " + finish + ")", x.at(s, 0), finished[finish][k]);
            }
        }
    }

    private static void tap() {
        due.part("promise 4");
        StencilCompiler x = new StencilCompiler(1);
        x.stage(0, 0);
        x.stage(0, 0);
        x.stage(0, 0);
        due.is("tap(-1, -1, 0, 1)", x.tap(-1, -1, 0, 1), StencilCompiler.REFUSED);
        due.is("tap(3, 0, 0, 1)", x.tap(3, 0, 0, 1), StencilCompiler.REFUSED);
        due.is("tap(1, -2, 0, 1)", x.tap(1, -2, 0, 1), StencilCompiler.REFUSED);
        due.is("tap(1, 1, 0, 1)", x.tap(1, 1, 0, 1), StencilCompiler.REFUSED);
        due.is("tap(1, 2, 0, 1)", x.tap(1, 2, 0, 1), StencilCompiler.REFUSED);
        due.is("tap(1, 0, -5, 1)", x.tap(1, 0, -5, 1), StencilCompiler.REFUSED);
        due.is("tap(1, 0, 5, 1)", x.tap(1, 0, 5, 1), StencilCompiler.REFUSED);
        due.is("tap(0, 0, 0, 1)", x.tap(0, 0, 0, 1), StencilCompiler.REFUSED);
        due.is("tap(1, 0, -4, MAX)", x.tap(1, 0, -4, MAX), 1);
        due.is("tap(1, 0, 4, MIN)", x.tap(1, 0, 4, MIN), 2);
        due.is("tap(2, 1, 0, 0)", x.tap(2, 1, 0, 0), 1);
        due.is("tap(1, -1, 0, 1)", x.tap(1, -1, 0, 1), 3);
        due.is("tap(1, -1, 0, 1)", x.tap(1, -1, 0, 1), 4);
        due.is("tap(1, -1, 0, 1), the fifth", x.tap(1, -1, 0, 1), StencilCompiler.FULL);
        due.is("tap(1, 1, 0, 1), the fifth", x.tap(1, 1, 0, 1), StencilCompiler.REFUSED);
        due.is("tap(1, 0, 5, 1), the fifth", x.tap(1, 0, 5, 1), StencilCompiler.REFUSED);
        tapsOfSeveralSources();
    }

    private static void tapsOfSeveralSources() {
        StencilCompiler x = new StencilCompiler(3);
        x.input(0, 1);
        x.input(1, 10);
        x.input(2, 100);
        x.stage(1000, 0);
        x.tap(0, -1, 1, 2);
        x.stage(5, 0);
        x.tap(1, 0, -1, -1);
        x.tap(1, -1, 2, 3);
        due.is("at(0, 0)", x.at(0, 0), 1020);
        due.is("at(1, 0)", x.at(1, 0), 5 - 1002 + 300);
    }

    private static void mode() {
        due.part("promise 5");
        StencilCompiler x = Pipelines.twoStages();
        due.is("mode(-1, 0)", x.mode(-1, 0), StencilCompiler.REFUSED);
        due.is("mode(2, 0)", x.mode(2, 0), StencilCompiler.REFUSED);
        due.is("mode(0, -1)", x.mode(0, -1), StencilCompiler.REFUSED);
        due.is("mode(0, 3)", x.mode(0, 3), StencilCompiler.REFUSED);
        int[] works = {12, 10, 14};
        for (int mode = 2; mode >= 0; mode--) {
            due.is("mode(0, " + mode + ")", x.mode(0, mode), StencilCompiler.DONE);
            x.compile();
            due.is("work(0) in mode " + mode, x.work(0), works[mode]);
        }
    }

    private static void tile() {
        due.part("promise 6");
        StencilCompiler x = Pipelines.twoStages();
        int[] refused = {MIN, -1, 0, 33, MAX};
        for (int size : refused) {
            due.is("tile(" + size + ")", x.tile(size), StencilCompiler.REFUSED);
        }
        int[] sizes = {1, 2, 4, 5, 6, 7, 32};
        int[] tiles = {6, 3, 2, 2, 1, 1, 1};
        for (int k = 0; k < sizes.length; k++) {
            due.is("tile(" + sizes[k] + ")", x.tile(sizes[k]), StencilCompiler.DONE);
            x.compile();
            due.is("count(4) with tile " + sizes[k], x.count(4), tiles[k]);
        }
    }

    private static void output() {
        due.part("promise 7");
        StencilCompiler x = Pipelines.twoStages();
        due.is("output(-1, 1)", x.output(-1, 1), StencilCompiler.REFUSED);
        due.is("output(2, 1)", x.output(2, 1), StencilCompiler.REFUSED);
        due.is("output(1, 0)", x.output(1, 0), StencilCompiler.REFUSED);
        due.is("output(1, 33)", x.output(1, 33), StencilCompiler.REFUSED);
        due.is("output(1, MIN)", x.output(1, MIN), StencilCompiler.REFUSED);
        due.is("output(1, 1)", x.output(1, 1), StencilCompiler.DONE);
        due.is("compile()", x.compile(), 3);
        due.is("output(1, 32)", x.output(1, 32), StencilCompiler.DONE);
        due.is("compile()", x.compile(), 96);
        due.is("output(0, 32)", x.output(0, 32), StencilCompiler.DONE);
        due.is("compile()", x.compile(), 32);
    }

    private static void everyChangeUndoesCompiled() {
        due.part("promises 2 to 7");
        for (int change = 0; change < 6; change++) {
            StencilCompiler x = Pipelines.twoStages();
            x.compile();
            x.run();
            due.is("count(1) before change " + change, x.count(1), 1);
            // Each but the new stage and tap sets what is there already: it undoes COMPILED all the same.
            switch (change) {
                case 0 -> x.input(0, 3);
                case 1 -> x.stage(0, 0);
                case 2 -> x.tap(1, -1, 0, 0);
                case 3 -> x.mode(0, 0);
                case 4 -> x.tile(4);
                default -> x.output(1, 6);
            }
            due.is("count(1) after change " + change, x.count(1), 0);
            due.is("run() after change " + change, x.run(), StencilCompiler.STATE);
            due.is("cell(0) after change " + change, x.cell(0), StencilCompiler.NONE);
        }
    }

    private static void refusedAndFullChangeNothing() {
        due.part("promises 2 to 7");
        StencilCompiler x = Pipelines.fourfold(8);
        x.output(1, 3);
        x.compile();
        x.run();
        due.is("input(1, 5)", x.input(1, 5), StencilCompiler.REFUSED);
        due.is("stage(0, 0)", x.stage(0, 0), StencilCompiler.FULL);
        due.is("stage(0, 9)", x.stage(0, 9), StencilCompiler.REFUSED);
        due.is("tap(1, 0, 0, 1)", x.tap(1, 0, 0, 1), StencilCompiler.FULL);
        due.is("tap(0, 0, 0, 1)", x.tap(0, 0, 0, 1), StencilCompiler.REFUSED);
        due.is("mode(0, 3)", x.mode(0, 3), StencilCompiler.REFUSED);
        due.is("tile(0)", x.tile(0), StencilCompiler.REFUSED);
        due.is("output(0, 33)", x.output(0, 33), StencilCompiler.REFUSED);
        due.is("count(1)", x.count(1), 1);
        due.is("cell(2)", x.cell(2), 4);
        due.is("count(6)", x.count(6), 15);
        due.is("compile()", x.compile(), StencilCompiler.STATE);
        due.is("run()", x.run(), 1);
    }
}
