/** The edges that promises 8 to 11 name, and the FAULTS, a test for each sentence. */
public final class RunningEdgesTest {
    private static final Due due = new Due();
    private static final int MIN = Integer.MIN_VALUE;
    private static final int MAX = Integer.MAX_VALUE;

    public static void main(String[] args) {
        compiledAlready();
        compileAfterFault();
        faultWithoutOutput();
        faultOfTiledSource();
        faultThroughInline();
        noFaultThroughRoot();
        noFaultOfOutput();
        noFaultOfUnused();
        faultOfLeastRoot();
        faultOfWork();
        faultOfWorkByTiles();
        firstFault();
        faultLeavesNotCompiled();
        compileOfLeast();
        runNotCompiled();
        runAnswersTiles();
        runAgain();
        cellOutOfRange();
        cellAtTheEnds();
        cellWithoutRun();
        cellAfterChange();
        cellByLatestRun();
        atStageOutOfRange();
        atPlaceOutOfRange();
        atPlaceAtTheEnds();
        at3000Values();
        atWhateverTheSchedule();
        atBesideKeptRows();
        atInEveryState();
        due.end();
    }

    private static void compiledAlready() {
        due.part("promise 8: COMPILED already: STATE");
        StencilCompiler x = Pipelines.twoStages();
        due.is("compile()", x.compile(), 18);
        due.is("compile() again", x.compile(), StencilCompiler.STATE);
        due.is("run()", x.run(), 2);
        due.is("compile() after run", x.compile(), StencilCompiler.STATE);
        due.is("cell(2)", x.cell(2), 10);
    }

    private static void compileAfterFault() {
        due.part("promise 8: a FAULT is no COMPILED");
        StencilCompiler x = Pipelines.chain(2, 1, 0);
        due.is("compile()", x.compile(), -201);
        due.is("compile() again", x.compile(), -201);
        x.mode(1, 2);
        due.is("compile() mended", x.compile(), 12);
    }

    private static void faultWithoutOutput() {
        due.part("FAULTS: there is no OUTPUT: -100");
        StencilCompiler x = new StencilCompiler(1);
        due.is("compile() of nothing", x.compile(), -100);
        for (int s = 0; s < 8; s++) {
            x.stage(0, 0);
            due.is("compile() with stage " + s, x.compile(), -100);
        }
        x.output(0, 1);
        due.is("compile() with an output", x.compile(), 1);
    }

    private static void faultOfTiledSource() {
        due.part("FAULTS: has a TILED one to work out for it, as a SOURCE");
        due.is("tiled, root, inline", Pipelines.chain(2, 1, 0).compile(), -201);
        due.is("tiled, root, root", Pipelines.chain(2, 1, 1).compile(), -201);
        due.is("tiled, root, tiled", Pipelines.chain(2, 1, 2).compile(), -201);
        due.is("the last root of eight stages", Pipelines.chain(0, 0, 0, 0, 0, 2, 1, 0).compile(), -206);
        due.is("root, tiled, inline", Pipelines.chain(1, 2, 0).compile(), 12);
        StencilCompiler x = new StencilCompiler(1);
        Pipelines.addStage(x);
        Pipelines.addStage(x);
        Pipelines.addStage(x, -1, 0, 0, 1);
        Pipelines.addStage(x, 2);
        x.mode(1, 2);
        x.mode(2, 1);
        x.output(3, 1);
        due.is("by the last of four taps", x.compile(), -202);
    }

    private static void faultThroughInline() {
        due.part("FAULTS: or through INLINE ones");
        due.is("through one", Pipelines.chain(2, 0, 1, 0).compile(), -202);
        due.is("through five", Pipelines.chain(2, 0, 0, 0, 0, 0, 1, 0).compile(), -206);
        StencilCompiler x = new StencilCompiler(1);
        Pipelines.addStage(x);
        Pipelines.addStage(x);
        Pipelines.addStage(x, -1, 0, 1);
        Pipelines.addStage(x, 0, 2);
        Pipelines.addStage(x, 3);
        x.mode(1, 2);
        x.mode(3, 1);
        x.output(4, 1);
        due.is("through the last tap of an inline one", x.compile(), -203);
    }

    private static void noFaultThroughRoot() {
        due.part("FAULTS: a TILED one behind a ROOT or a TILED one is not for it");
        StencilCompiler x = Pipelines.chain(2, 1, 1, 0);
        due.is("the root at the tiled one alone is told", x.compile(), -201);
        x.mode(0, 1);
        due.is("roots alone", x.compile(), 16);
        due.is("tiled over inline over tiled", Pipelines.chain(2, 0, 2, 0).compile(), 16);
        StencilCompiler y = Pipelines.chain(1, 0, 1, 0);
        due.is("root over inline over root", y.compile(), 16);
    }

    private static void noFaultOfOutput() {
        due.part("FAULTS: A USED ROOT stage (but THE OUTPUT)");
        due.is("tiled, root output", Pipelines.chain(2, 1).compile(), 8);
        due.is("tiled, inline, root output", Pipelines.chain(2, 0, 1).compile(), 12);
        StencilCompiler x = Pipelines.chain(2, 1);
        x.compile();
        due.is("run()", x.run(), 1);
        due.is("cell(3)", x.cell(3), 0);
    }

    private static void noFaultOfUnused() {
        due.part("FAULTS: A USED ROOT stage");
        StencilCompiler x = Pipelines.chain(2, 1, 0);
        x.output(0, 4);
        due.is("the root behind the output", x.compile(), 4);
        Pipelines.addStage(x, 0);
        x.output(3, 4);
        due.is("the root before the output, not used", x.compile(), 8);
        x.tap(3, 1, 0, 1);
        due.is("the root before the output, used", x.compile(), -201);
    }

    private static void faultOfLeastRoot() {
        due.part("FAULTS: -200 - the least such ROOT stage");
        StencilCompiler x = new StencilCompiler(1);
        Pipelines.addStage(x);
        for (int s = 1; s < 7; s++) {
            Pipelines.addStage(x, 0);
            x.mode(s, 1);
        }
        Pipelines.addStage(x, 6, 5, 4, 3);
        x.mode(0, 2);
        x.output(7, 1);
        due.is("roots 3 to 6 used, 1 and 2 not", x.compile(), -203);
        x.mode(3, 2);
        due.is("roots 4 to 6", x.compile(), -204);
        x.mode(4, 0);
        x.mode(5, 0);
        due.is("root 6", x.compile(), -206);
        x.mode(6, 2);
        due.is("none, all six used at one place", x.compile(), 6);
    }

    private static void faultOfWork() {
        due.part("FAULTS: The WORK of all stages is above 4000: -300");
        StencilCompiler x = Pipelines.fourThousand();
        due.is("compile() with work 4000", x.compile(), 4000);
        due.is("run()", x.run(), 1);
        x.tap(7, 0, 0, 1);
        due.is("compile() with work 4001", x.compile(), -300);
        x.output(6, 2);
        due.is("compile() with less", x.compile(), 2 * 1477);
        x.output(6, 3);
        due.is("compile() with 3 times 1477", x.compile(), -300);
    }

    private static void faultOfWorkByTiles() {
        due.part("FAULTS: The WORK of all stages, TILED ones by every TILE");
        StencilCompiler x = new StencilCompiler(1);
        for (int s = 0; s < 8; s++) {
            x.stage(0, 0);
            if (s > 0) {
                x.tap(s, s - 1, -4, 1);
                x.tap(s, s - 1, 4, 1);
                x.mode(s - 1, 2);
            }
        }
        x.tile(1);
        x.output(7, 17);
        due.is("compile() with W 17", x.compile(), 17 * (1 + 9 + 17 + 25 + 33 + 41 + 49 + 57));
        x.output(7, 18);
        due.is("compile() with W 18", x.compile(), -300);
        x.tile(2);
        due.is("compile() with W 18 and T 2", x.compile(), 9 * (2 + 10 + 18 + 26 + 34 + 42 + 50 + 58));
    }

    private static void firstFault() {
        due.part("promise 8: The first FAULT");
        StencilCompiler x = Pipelines.fourfold(8);
        x.mode(0, 2);
        x.mode(1, 1);
        due.is("all three", x.compile(), -100);
        x.output(7, 32);
        due.is("the second and the third", x.compile(), -201);
        x.mode(1, 0);
        due.is("the third", x.compile(), -300);
        x.output(2, 1);
        due.is("none", x.compile(), 1 + 4 + 1);
    }

    private static void faultLeavesNotCompiled() {
        due.part("promise 8: a FAULT leaves nothing COMPILED");
        StencilCompiler x = Pipelines.fourThousand();
        x.tap(7, 0, 0, 1);
        due.is("compile()", x.compile(), -300);
        for (int what = 1; what <= 6; what++) {
            due.is("count(" + what + ")", x.count(what), 0);
        }
        due.is("run()", x.run(), StencilCompiler.STATE);
        due.is("work(7)", x.work(7), StencilCompiler.STATE);
        due.is("region(7, true)", x.region(7, true), -1000);
        due.is("cell(0)", x.cell(0), StencilCompiler.NONE);
    }

    private static void compileOfLeast() {
        due.part("promise 8: else COMPILED: the WORK of all stages");
        StencilCompiler x = new StencilCompiler(1);
        x.stage(3, 0);
        x.output(0, 1);
        due.is("compile() of one stage at one place", x.compile(), 1);
        due.is("run()", x.run(), 1);
        due.is("cell(0)", x.cell(0), 3);
    }

    private static void runNotCompiled() {
        due.part("promise 9: Not COMPILED: STATE");
        StencilCompiler x = Pipelines.twoStages();
        due.is("run() before compile", x.run(), StencilCompiler.STATE);
        due.is("cell(2)", x.cell(2), StencilCompiler.NONE);
        x.compile();
        due.is("run()", x.run(), 2);
        x.mode(0, 0);
        due.is("run() after a change", x.run(), StencilCompiler.STATE);
        due.is("cell(2)", x.cell(2), StencilCompiler.NONE);
    }

    private static void runAnswersTiles() {
        due.part("promise 9: Answers the number of TILES");
        int[] widths = {1, 1, 31, 32, 32, 32};
        int[] sizes = {1, 32, 32, 32, 31, 1};
        int[] tiles = {1, 1, 1, 1, 2, 32};
        for (int k = 0; k < widths.length; k++) {
            for (int mode = 0; mode < 3; mode++) {
                StencilCompiler x = Pipelines.neighbours(mode, widths[k], sizes[k]);
                x.compile();
                due.is("run() with W " + widths[k] + " and T " + sizes[k], x.run(), tiles[k]);
            }
        }
    }

    private static void runAgain() {
        due.part("promise 9: Runs, as often as it is asked");
        StencilCompiler x = Pipelines.neighbours(2, 9, 4);
        x.compile();
        for (int k = 0; k < 3; k++) {
            due.is("run() " + k, x.run(), 3);
            due.is("cell(8)", x.cell(8), 49 + 81);
        }
    }

    private static void cellOutOfRange() {
        due.part("promise 10: NONE if x is not 0 .. W - 1");
        int[] widths = {1, 6, 31, 32};
        for (int width : widths) {
            StencilCompiler x = Pipelines.neighbours(1, width, 4);
            x.compile();
            x.run();
            int[] places = {MIN, -33, -1, width, width + 1, 33, MAX};
            for (int place : places) {
                due.is("cell(" + place + ") with W " + width, x.cell(place), StencilCompiler.NONE);
            }
        }
    }

    private static void cellAtTheEnds() {
        due.part("promise 10: The value of THE OUTPUT at the place x");
        for (int mode = 0; mode < 3; mode++) {
            StencilCompiler x = Pipelines.neighbours(mode, 32, 5);
            x.compile();
            x.run();
            due.is("cell(0)", x.cell(0), 1);
            due.is("cell(4), the last of a tile", x.cell(4), 9 + 25);
            due.is("cell(5), the first of a tile", x.cell(5), 16 + 36);
            due.is("cell(23)", x.cell(23), 22 * 22 + 23 * 23);
            due.is("cell(31)", x.cell(31), 2 * 23 * 23);
        }
    }

    private static void cellWithoutRun() {
        due.part("promise 10: NONE if there was none since it was COMPILED");
        StencilCompiler x = Pipelines.twoStages();
        due.is("cell(0) before compile", x.cell(0), StencilCompiler.NONE);
        due.is("run() before compile", x.run(), StencilCompiler.STATE);
        due.is("cell(0) after a run that was none", x.cell(0), StencilCompiler.NONE);
        x.compile();
        due.is("cell(0) before run", x.cell(0), StencilCompiler.NONE);
        due.is("cell(5) before run", x.cell(5), StencilCompiler.NONE);
        x.run();
        due.is("cell(0)", x.cell(0), -1);
        x.tile(4);
        x.compile();
        due.is("cell(0) compiled anew, before run", x.cell(0), StencilCompiler.NONE);
    }

    private static void cellAfterChange() {
        due.part("promise 10: NONE while it isn't COMPILED");
        StencilCompiler x = Pipelines.twoStages();
        x.compile();
        x.run();
        x.output(1, 32);
        due.is("cell(0) after a wider output", x.cell(0), StencilCompiler.NONE);
        due.is("cell(31) after a wider output", x.cell(31), StencilCompiler.NONE);
        x.mode(0, 2);
        x.stage(0, 0);
        x.tap(2, 0, 0, 1);
        x.mode(2, 1);
        x.stage(0, 0);
        x.tap(3, 2, 0, 1);
        x.output(3, 6);
        due.is("compile()", x.compile(), -202);
        due.is("cell(0) after a fault", x.cell(0), StencilCompiler.NONE);
    }

    private static void cellByLatestRun() {
        due.part("promise 10: by the latest run");
        StencilCompiler x = new StencilCompiler(1);
        Pipelines.addStage(x, -1);
        x.output(0, 2);
        int[] values = {MIN, -1, 0, 1, MAX};
        for (int value : values) {
            x.input(0, value);
            x.compile();
            x.run();
            due.is("cell(1)", x.cell(1), value);
        }
    }

    private static void atStageOutOfRange() {
        due.part("promise 11: NONE out of range: stage s");
        StencilCompiler x = Pipelines.twoStages();
        int[] stages = {MIN, -2, -1, 2, 3, 7, 8, 9, MAX};
        for (int s : stages) {
            due.is("at(" + s + ", 0)", x.at(s, 0), StencilCompiler.NONE);
            due.is("at(" + s + ", 101)", x.at(s, 101), StencilCompiler.NONE);
        }
    }

    private static void atPlaceOutOfRange() {
        due.part("promise 11: NONE out of range: the place x (-100 .. 100)");
        StencilCompiler x = Pipelines.twoStages();
        int[] places = {MIN, -1000, -102, -101, 101, 102, 1000, MAX};
        for (int place : places) {
            due.is("at(0, " + place + ")", x.at(0, place), StencilCompiler.NONE);
            due.is("at(1, " + place + ")", x.at(1, place), StencilCompiler.NONE);
        }
    }

    private static void atPlaceAtTheEnds() {
        due.part("promise 11: the place x (-100 .. 100)");
        StencilCompiler x = Pipelines.twoStages();
        due.is("at(0, -100)", x.at(0, -100), 6);
        due.is("at(0, -99)", x.at(0, -99), 6);
        due.is("at(0, 99)", x.at(0, 99), 18);
        due.is("at(0, 100)", x.at(0, 100), 18);
        due.is("at(1, -2)", x.at(1, -2), 4 - 6);
        due.is("at(1, 7)", x.at(1, 7), 0);
    }

    private static void at3000Values() {
        due.part("promise 11: if more than 3000 values of stages would be worked out for it, its own among them");
        StencilCompiler x = Pipelines.threeThousand();
        due.is("at(7, 0) for 3000", x.at(7, 0), 2 * (1024 + 64 + 4 + 1) + 64);
        due.is("at(7, -100) for 3000", x.at(7, -100), 2 * (1024 + 64 + 4 + 1) + 64);
        x.tap(7, 0, 0, 1);
        due.is("at(7, 0) for 3001", x.at(7, 0), StencilCompiler.NONE);
        due.is("at(6, 0) for 1457", x.at(6, 0), 1024 + 64 + 4 + 1);
        StencilCompiler y = Pipelines.threeThousand();
        y.tap(7, -1, 0, 1);
        due.is("at(7, 0), a tap of the input is no value of a stage", y.at(7, 0), 2 * (1024 + 64 + 4 + 1) + 65);
    }

    private static void atWhateverTheSchedule() {
        due.part("promise 11: by the rule, whatever the schedule");
        for (int mode = 0; mode < 3; mode++) {
            StencilCompiler x = Pipelines.threeThousand();
            for (int s = 0; s < 8; s++) {
                x.mode(s, mode);
            }
            x.output(7, 1);
            x.compile();
            x.run();
            due.is("at(7, 0) for 3000 in mode " + mode, x.at(7, 0), 2 * (1024 + 64 + 4 + 1) + 64);
            x.tap(7, 0, 0, 1);
            x.compile();
            x.run();
            due.is("at(7, 0) for 3001 in mode " + mode, x.at(7, 0), StencilCompiler.NONE);
            due.is("cell(0) in mode " + mode, x.cell(0), 2 * (1024 + 64 + 4 + 1) + 65);
        }
    }

    private static void atBesideKeptRows() {
        due.part("promise 11: by the rule, not by what a run kept");
        for (int mode = 0; mode < 3; mode++) {
            StencilCompiler x = Pipelines.neighbours(mode, 6, 4);
            x.compile();
            x.run();
            due.is("at(1, -100) after a run in mode " + mode, x.at(1, -100), 0);
            due.is("at(1, 100) after a run in mode " + mode, x.at(1, 100), 2 * 23 * 23);
            x.input(2, 50);
            due.is("at(1, 1) after a change in mode " + mode, x.at(1, 1), 50);
            due.is("at(0, 2) after a change in mode " + mode, x.at(0, 2), 50);
        }
    }

    private static void atInEveryState() {
        due.part("promise 11: The value of stage s, COMPILED or not, USED or not");
        StencilCompiler x = new StencilCompiler(2);
        x.input(1, 9);
        Pipelines.addStage(x, -1);
        due.is("at(0, 1) without an output", x.at(0, 1), 9);
        Pipelines.addStage(x, 0);
        x.output(0, 1);
        x.mode(0, 2);
        x.compile();
        due.is("at(1, 1), a stage behind the output", x.at(1, 1), 9);
        x.run();
        due.is("at(0, 1), a place behind W - 1", x.at(0, 1), 9);
        x.input(1, 8);
        due.is("at(0, 1) after a change", x.at(0, 1), 8);
        due.is("at(1, 100) after a change", x.at(1, 100), 8);
        x.mode(0, 2);
        Pipelines.addStage(x, 0);
        x.mode(2, 1);
        Pipelines.addStage(x, 2);
        x.output(3, 1);
        due.is("compile()", x.compile(), -202);
        due.is("at(3, 1) after a fault", x.at(3, 1), 8);
    }
}
