/** The edges that promises 1 to 7 name, a test for each sentence. */
public final class BuildingEdgesTest {
    private static final Due due = new Due();
    private static final int MIN = Integer.MIN_VALUE;
    private static final int MAX = Integer.MAX_VALUE;
    private static final int[] FAR_AND_NEAR_BELOW_ZERO = {MIN, MIN + 1, -100, -2, -1};

    public static void main(String[] args) {
        lengthTooSmall();
        lengthTooLarge();
        newCellsAreZero();
        newTileIsFour();
        newObjectIsEmpty();
        inputCellTooSmall();
        inputCellTooLarge();
        inputTakesEveryInt();
        inputRefusedChangesNothing();
        stageFinishOutOfRange();
        stageTakesEveryConstant();
        newStageHasNoTaps();
        newStageIsInline();
        stageFull();
        stageRefusedChangesNothing();
        tapStageOutOfRange();
        tapSourceTooSmall();
        tapSourceTooLarge();
        tapOffsetOutOfRange();
        tapFull();
        tapRefusedChangesNothing();
        modeStageOutOfRange();
        modeOutOfRange();
        modeRefusedChangesNothing();
        tileOutOfRange();
        tileAtTheEnds();
        tileRefusedChangesNothing();
        outputStageOutOfRange();
        outputWidthOutOfRange();
        outputAtTheEnds();
        outputRefusedChangesNothing();
        everyChangeUndoesCompiled();
        due.end();
    }

    private static void refused(String call, long got) {
        due.is(call, got, StencilCompiler.REFUSED);
    }

    private static void done(String call, long got) {
        due.is(call, got, StencilCompiler.DONE);
    }

    /** An input of 3 cells 1, 2, 3 under a full stage 0 that is COMPILED with W 5 and has run. */
    private static StencilCompiler ready() {
        StencilCompiler x = new StencilCompiler(3);
        for (int i = 0; i < 3; i++) {
            x.input(i, i + 1);
        }
        Pipelines.addStage(x, -1, -1, -1, -1);
        x.output(0, 5);
        x.compile();
        x.run();
        return x;
    }

    /** What ready() was like still holds: a refused call changed nothing. */
    private static void isReady(StencilCompiler x) {
        due.is("count(1)", x.count(1), 1);
        due.is("count(3)", x.count(3), 1);
        due.is("count(4)", x.count(4), 2);
        due.is("cell(4)", x.cell(4), 12);
        due.is("cell(5)", x.cell(5), StencilCompiler.NONE);
        due.is("at(0, -1)", x.at(0, -1), 4);
        due.is("at(0, 1)", x.at(0, 1), 8);
        due.is("compile()", x.compile(), StencilCompiler.STATE);
        // Setting what is there already shows what the next compile finds.
        done("input(0, 1)", x.input(0, 1));
        due.is("compile()", x.compile(), 5);
        due.is("run()", x.run(), 2);
        due.is("count(2)", x.count(2), 0);
        due.is("cell(0)", x.cell(0), 4);
        due.is("cell(4)", x.cell(4), 12);
    }

    private static void hasLength(StencilCompiler x, int length, String made) {
        done(made + ": last cell", x.input(length - 1, 7));
        refused(made + ": one more", x.input(length, 7));
    }

    private static void lengthTooSmall() {
        due.part("promise 1: N clamped to 1 ..");
        int[] lengths = {MIN, -24, -1, 0, 1};
        for (int length : lengths) {
            hasLength(new StencilCompiler(length), 1, "length " + length);
        }
        hasLength(new StencilCompiler(2), 2, "length 2");
    }

    private static void lengthTooLarge() {
        due.part("promise 1: N clamped to .. 24");
        int[] lengths = {24, 25, 48, 1000, MAX};
        for (int length : lengths) {
            hasLength(new StencilCompiler(length), 24, "length " + length);
        }
        hasLength(new StencilCompiler(23), 23, "length 23");
    }

    private static void newCellsAreZero() {
        due.part("promise 1: its cells are 0");
        StencilCompiler x = new StencilCompiler(24);
        Pipelines.addStage(x, -1);
        for (int place = -1; place <= 24; place++) {
            due.is("at(0, " + place + ")", x.at(0, place), 0);
        }
    }

    private static void newTileIsFour() {
        due.part("promise 1: TILE 4");
        int[] widths = {1, 4, 5, 8, 9, 32};
        int[] tiles = {1, 1, 2, 2, 3, 8};
        for (int k = 0; k < widths.length; k++) {
            StencilCompiler x = new StencilCompiler(1);
            x.stage(0, 0);
            x.output(0, widths[k]);
            x.compile();
            due.is("count(4) with W " + widths[k], x.count(4), tiles[k]);
        }
    }

    private static void newObjectIsEmpty() {
        due.part("promise 1: no stages, no OUTPUT");
        StencilCompiler x = new StencilCompiler(24);
        due.is("count(0)", x.count(0), 0);
        refused("tap(0, -1, 0, 1)", x.tap(0, -1, 0, 1));
        refused("tap(-1, -1, 0, 1)", x.tap(-1, -1, 0, 1));
        refused("mode(0, 0)", x.mode(0, 0));
        refused("output(0, 1)", x.output(0, 1));
        refused("output(-1, 1)", x.output(-1, 1));
        refused("work(0)", x.work(0));
        due.is("compile()", x.compile(), -100);
        due.is("run()", x.run(), StencilCompiler.STATE);
        due.is("cell(0)", x.cell(0), StencilCompiler.NONE);
        due.is("at(0, 0)", x.at(0, 0), StencilCompiler.NONE);
        due.is("region(0, false)", x.region(0, false), -1000);
    }

    private static void inputCellTooSmall() {
        due.part("promise 2: cell i too small");
        StencilCompiler x = new StencilCompiler(3);
        for (int i : FAR_AND_NEAR_BELOW_ZERO) {
            refused("input(" + i + ", 1)", x.input(i, 1));
        }
        done("input(0, 1)", x.input(0, 1));
    }

    private static void inputCellTooLarge() {
        due.part("promise 2: cell i too large");
        for (int n = 1; n <= 24; n++) {
            StencilCompiler x = new StencilCompiler(n);
            int[] cells = {n, n + 1, 100, MAX};
            for (int i : cells) {
                refused("input(" + i + ", 1) with N " + n, x.input(i, 1));
            }
            done("input(" + (n - 1) + ", 1) with N " + n, x.input(n - 1, 1));
        }
    }

    private static void inputTakesEveryInt() {
        due.part("promise 2: Sets cell i of the INPUT");
        int[] values = {MIN, -1, 0, 1, MAX};
        StencilCompiler x = new StencilCompiler(2);
        Pipelines.addStage(x, -1);
        for (int value : values) {
            done("input(1, " + value + ")", x.input(1, value));
            due.is("at(0, 1)", x.at(0, 1), value);
            due.is("at(0, 0)", x.at(0, 0), 0);
        }
    }

    private static void inputRefusedChangesNothing() {
        due.part("promise 2: REFUSED changes nothing");
        StencilCompiler x = ready();
        refused("input(-1, 50)", x.input(-1, 50));
        refused("input(3, 50)", x.input(3, 50));
        isReady(x);
    }

    private static void stageFinishOutOfRange() {
        due.part("promise 3: FINISH (0 .. 3)");
        StencilCompiler x = new StencilCompiler(1);
        int[] finishes = {MIN, -2, -1, 4, 5, MAX};
        for (int finish : finishes) {
            refused("stage(0, " + finish + ")", x.stage(0, finish));
        }
        due.is("count(0)", x.count(0), 0);
        due.is("stage(0, 0)", x.stage(0, 0), 0);
        due.is("stage(0, 3)", x.stage(0, 3), 1);
    }

    private static void stageTakesEveryConstant() {
        due.part("promise 3: with the CONSTANT");
        StencilCompiler x = new StencilCompiler(1);
        int[] constants = {MIN, -1, 0, 1, MAX};
        for (int k = 0; k < constants.length; k++) {
            due.is("stage(" + constants[k] + ", 0)", x.stage(constants[k], 0), k);
        }
        for (int k = 0; k < constants.length; k++) {
            due.is("at(" + k + ", 0)", x.at(k, 0), constants[k]);
        }
    }

    private static void newStageHasNoTaps() {
        due.part("promise 3: A new stage without TAPS");
        StencilCompiler x = new StencilCompiler(1);
        x.input(0, 5);
        Pipelines.addStage(x, -1, -1, -1, -1);
        due.is("stage(7, 0)", x.stage(7, 0), 1);
        due.is("at(1, 0)", x.at(1, 0), 7);
        x.output(1, 3);
        due.is("compile() of a stage without taps", x.compile(), 3);
        due.is("count(3)", x.count(3), 1);
        due.is("tap(1, 0, 0, 1), its first", x.tap(1, 0, 0, 1), 1);
    }

    private static void newStageIsInline() {
        due.part("promise 3: MODE 0");
        StencilCompiler x = new StencilCompiler(1);
        for (int s = 0; s < 8; s++) {
            Pipelines.addStage(x, s - 1);
        }
        x.tap(7, 6, 0, 1);
        x.output(7, 3);
        due.is("compile()", x.compile(), 3 + 7 * 6);
        due.is("count(2)", x.count(2), 0);
    }

    private static void stageFull() {
        due.part("promise 3: 8 are there: FULL");
        StencilCompiler x = new StencilCompiler(1);
        for (int s = 0; s < 8; s++) {
            due.is("stage number " + s, x.stage(s, 0), s);
        }
        for (int finish = 0; finish < 4; finish++) {
            due.is("stage(9, " + finish + ")", x.stage(9, finish), StencilCompiler.FULL);
        }
        due.is("count(0)", x.count(0), 8);
        due.is("at(7, 0)", x.at(7, 0), 7);
        due.is("at(0, 0)", x.at(0, 0), 0);
    }

    private static void stageRefusedChangesNothing() {
        due.part("promise 3: REFUSED or FULL changes nothing");
        StencilCompiler x = ready();
        refused("stage(50, 4)", x.stage(50, 4));
        due.is("count(0)", x.count(0), 1);
        isReady(x);
        StencilCompiler y = Pipelines.fourfold(8);
        y.output(1, 3);
        y.compile();
        y.run();
        due.is("stage(50, 1)", y.stage(50, 1), StencilCompiler.FULL);
        due.is("count(1)", y.count(1), 1);
        due.is("cell(2)", y.cell(2), 4);
    }

    private static void tapStageOutOfRange() {
        due.part("promise 4: stage s");
        StencilCompiler x = new StencilCompiler(1);
        x.stage(0, 0);
        x.stage(0, 0);
        for (int s : FAR_AND_NEAR_BELOW_ZERO) {
            refused("tap(" + s + ", -1, 0, 1)", x.tap(s, -1, 0, 1));
        }
        int[] tooLarge = {2, 3, 7, 8, 9, MAX};
        for (int s : tooLarge) {
            refused("tap(" + s + ", -1, 0, 1)", x.tap(s, -1, 0, 1));
            refused("tap(" + s + ", 1, 0, 1)", x.tap(s, 1, 0, 1));
        }
        due.is("tap(0, -1, 0, 1)", x.tap(0, -1, 0, 1), 1);
        due.is("tap(1, -1, 0, 1)", x.tap(1, -1, 0, 1), 1);
    }

    private static void tapSourceTooSmall() {
        due.part("promise 4: source -1 ..");
        StencilCompiler x = new StencilCompiler(1);
        x.stage(0, 0);
        int[] sources = {MIN, -1000, -3, -2};
        for (int source : sources) {
            refused("tap(0, " + source + ", 0, 1)", x.tap(0, source, 0, 1));
        }
        due.is("tap(0, -1, 0, 1)", x.tap(0, -1, 0, 1), 1);
    }

    private static void tapSourceTooLarge() {
        due.part("promise 4: source .. s - 1");
        StencilCompiler x = new StencilCompiler(1);
        for (int s = 0; s < 8; s++) {
            x.stage(0, 0);
        }
        for (int s = 0; s < 8; s++) {
            int[] sources = {s, s + 1, 8, MAX};
            for (int source : sources) {
                refused("tap(" + s + ", " + source + ", 0, 1)", x.tap(s, source, 0, 1));
            }
            due.is("tap(" + s + ", " + (s - 1) + ", 0, 1)", x.tap(s, s - 1, 0, 1), 1);
        }
    }

    private static void tapOffsetOutOfRange() {
        due.part("promise 4: offset -4 .. 4");
        StencilCompiler x = new StencilCompiler(1);
        x.stage(0, 0);
        int[] offsets = {MIN, -6, -5, 5, 6, MAX};
        for (int offset : offsets) {
            refused("tap(0, -1, " + offset + ", 1)", x.tap(0, -1, offset, 1));
        }
        due.is("tap(0, -1, -4, 1)", x.tap(0, -1, -4, 1), 1);
        due.is("tap(0, -1, 4, 1)", x.tap(0, -1, 4, 1), 2);
    }

    private static void tapFull() {
        due.part("promise 4: it has 4: FULL");
        StencilCompiler x = new StencilCompiler(1);
        x.stage(0, 0);
        x.stage(0, 0);
        for (int k = 1; k <= 4; k++) {
            due.is("tap " + k, x.tap(1, k % 2 - 1, 0, k), k);
        }
        due.is("the fifth, of the input", x.tap(1, -1, 0, 1), StencilCompiler.FULL);
        due.is("the fifth, of a stage", x.tap(1, 0, 4, 0), StencilCompiler.FULL);
        due.is("the fifth again", x.tap(1, 0, -4, MAX), StencilCompiler.FULL);
        due.is("the first of another stage", x.tap(0, -1, 0, 1), 1);
    }

    private static void tapRefusedChangesNothing() {
        due.part("promise 4: REFUSED or FULL changes nothing");
        StencilCompiler x = ready();
        due.is("tap(0, -1, 0, 50)", x.tap(0, -1, 0, 50), StencilCompiler.FULL);
        refused("tap(0, 0, 0, 50)", x.tap(0, 0, 0, 50));
        refused("tap(0, -1, 5, 50)", x.tap(0, -1, 5, 50));
        refused("tap(1, -1, 0, 50)", x.tap(1, -1, 0, 50));
        isReady(x);
        StencilCompiler y = new StencilCompiler(1);
        y.input(0, 1);
        y.stage(0, 0);
        refused("tap(0, 0, 0, 50)", y.tap(0, 0, 0, 50));
        refused("tap(0, -1, 5, 50)", y.tap(0, -1, 5, 50));
        due.is("at(0, 0)", y.at(0, 0), 0);
        due.is("tap(0, -1, 0, 1)", y.tap(0, -1, 0, 1), 1);
    }

    private static void modeStageOutOfRange() {
        due.part("promise 5: stage s");
        StencilCompiler x = Pipelines.twoStages();
        for (int s : FAR_AND_NEAR_BELOW_ZERO) {
            refused("mode(" + s + ", 0)", x.mode(s, 0));
        }
        int[] tooLarge = {2, 7, 8, 9, MAX};
        for (int s : tooLarge) {
            refused("mode(" + s + ", 1)", x.mode(s, 1));
        }
        done("mode(0, 1)", x.mode(0, 1));
        done("mode(1, 1)", x.mode(1, 1));
    }

    private static void modeOutOfRange() {
        due.part("promise 5: MODE (0 .. 2)");
        StencilCompiler x = Pipelines.twoStages();
        int[] modes = {MIN, -2, -1, 3, 4, MAX};
        for (int mode : modes) {
            refused("mode(0, " + mode + ")", x.mode(0, mode));
        }
        int[] works = {12, 10, 14};
        for (int mode = 0; mode < 3; mode++) {
            done("mode(0, " + mode + ")", x.mode(0, mode));
            due.is("compile() in mode " + mode, x.compile(), 6 + works[mode]);
        }
    }

    private static void modeRefusedChangesNothing() {
        due.part("promise 5: REFUSED changes nothing");
        for (int mode = 0; mode < 3; mode++) {
            StencilCompiler x = Pipelines.neighbours(mode, 6, 4);
            int work = x.compile();
            refused("mode(0, 3)", x.mode(0, 3));
            refused("mode(0, -1)", x.mode(0, -1));
            refused("mode(2, 0)", x.mode(2, 0));
            due.is("count(1)", x.count(1), 1);
            x.tile(4);
            due.is("compile() in mode " + mode, x.compile(), work);
        }
    }

    private static void tileOutOfRange() {
        due.part("promise 6: T (1 .. 32)");
        StencilCompiler x = Pipelines.twoStages();
        int[] sizes = {MIN, -32, -1, 0, 33, 34, MAX};
        for (int size : sizes) {
            refused("tile(" + size + ")", x.tile(size));
        }
    }

    private static void tileAtTheEnds() {
        due.part("promise 6: Sets T");
        StencilCompiler x = Pipelines.neighbours(2, 32, 4);
        done("tile(1)", x.tile(1));
        due.is("compile() with T 1", x.compile(), 32 + 32 * 3);
        due.is("count(4)", x.count(4), 32);
        done("tile(32)", x.tile(32));
        due.is("compile() with T 32", x.compile(), 32 + 34);
        due.is("count(4)", x.count(4), 1);
    }

    private static void tileRefusedChangesNothing() {
        due.part("promise 6: REFUSED changes nothing");
        StencilCompiler x = ready();
        refused("tile(0)", x.tile(0));
        refused("tile(33)", x.tile(33));
        isReady(x);
    }

    private static void outputStageOutOfRange() {
        due.part("promise 7: Stage s");
        StencilCompiler x = new StencilCompiler(1);
        x.stage(0, 0);
        x.stage(0, 0);
        for (int s : FAR_AND_NEAR_BELOW_ZERO) {
            refused("output(" + s + ", 1)", x.output(s, 1));
        }
        int[] tooLarge = {2, 7, 8, 9, MAX};
        for (int s : tooLarge) {
            refused("output(" + s + ", 1)", x.output(s, 1));
        }
        due.is("compile() without output", x.compile(), -100);
        done("output(1, 1)", x.output(1, 1));
        done("output(0, 1)", x.output(0, 1));
    }

    private static void outputWidthOutOfRange() {
        due.part("promise 7: W (1 .. 32)");
        StencilCompiler x = new StencilCompiler(1);
        x.stage(0, 0);
        int[] widths = {MIN, -32, -1, 0, 33, 34, MAX};
        for (int width : widths) {
            refused("output(0, " + width + ")", x.output(0, width));
        }
        due.is("compile() without output", x.compile(), -100);
    }

    private static void outputAtTheEnds() {
        due.part("promise 7: becomes THE OUTPUT, with W");
        StencilCompiler x = new StencilCompiler(1);
        x.stage(5, 0);
        x.stage(6, 0);
        done("output(1, 1)", x.output(1, 1));
        due.is("compile() with W 1", x.compile(), 1);
        x.run();
        due.is("cell(0)", x.cell(0), 6);
        due.is("cell(1)", x.cell(1), StencilCompiler.NONE);
        done("output(0, 32)", x.output(0, 32));
        due.is("compile() with W 32", x.compile(), 32);
        x.run();
        due.is("cell(31)", x.cell(31), 5);
        due.is("cell(32)", x.cell(32), StencilCompiler.NONE);
        due.is("region(1, true), the output before", x.region(1, true), -2000);
    }

    private static void outputRefusedChangesNothing() {
        due.part("promise 7: REFUSED changes nothing");
        StencilCompiler x = ready();
        refused("output(0, 0)", x.output(0, 0));
        refused("output(0, 33)", x.output(0, 33));
        refused("output(1, 9)", x.output(1, 9));
        refused("output(-1, 9)", x.output(-1, 9));
        isReady(x);
        StencilCompiler y = Pipelines.twoStages();
        refused("output(0, 33)", y.output(0, 33));
        due.is("compile() with the output as it was", y.compile(), 18);
    }

    private static void everyChangeUndoesCompiled() {
        String[] calls = {"input(2, 3)", "stage(0, 0)", "tap(1, -1, 0, 0)", "mode(0, 0)", "tile(4)", "output(0, 5)"};
        for (int change = 0; change < calls.length; change++) {
            due.part("promises 2 to 7: makes the pipeline not COMPILED, after " + calls[change]);
            StencilCompiler x = ready();
            x.stage(0, 0);
            x.compile();
            x.run();
            due.is("cell(4) before", x.cell(4), 12);
            switch (change) {
                case 0 -> x.input(2, 3);
                case 1 -> x.stage(0, 0);
                case 2 -> x.tap(1, -1, 0, 0);
                case 3 -> x.mode(0, 0);
                case 4 -> x.tile(4);
                default -> x.output(0, 5);
            }
            due.is("count(1)", x.count(1), 0);
            due.is("count(6)", x.count(6), 0);
            due.is("work(0)", x.work(0), StencilCompiler.STATE);
            due.is("region(0, true)", x.region(0, true), -1000);
            due.is("run()", x.run(), StencilCompiler.STATE);
            due.is("cell(4)", x.cell(4), StencilCompiler.NONE);
            due.is("compile()", x.compile(), 5);
        }
    }
}
