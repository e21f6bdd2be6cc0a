/** Promises 9 to 11: run, cell and at. */
public final class RunTest {
    private static final Due due = new Due();
    private static final int MIN = Integer.MIN_VALUE;
    private static final int MAX = Integer.MAX_VALUE;
    private static final long[] TWO_STAGES = {5 - 6, 6 - 6, 14 - 4, 18 - 5, 18 - 5, 18 - 6};

    public static void main(String[] args) {
        runNeedsCompiled();
        runTellsTiles();
        cellsInEverySchedule();
        cellOutOfRange();
        cellNeedsRun();
        cellAfterFailedCompile();
        valuesWrap();
        atInAnyState();
        atOutOfRange();
        atWorksOutAtMost3000();
        due.end();
    }

    private static void runNeedsCompiled() {
        due.part("promise 9");
        StencilCompiler x = Pipelines.twoStages();
        due.is("run() before compile", x.run(), StencilCompiler.STATE);
        x.compile();
        due.is("run()", x.run(), 2);
        due.is("run() again", x.run(), 2);
        due.is("count(1)", x.count(1), 1);
        x.input(0, 4);
        due.is("run() after a change", x.run(), StencilCompiler.STATE);
    }

    private static void runTellsTiles() {
        due.part("promise 9");
        for (int width = 1; width <= 32; width++) {
            for (int size = 1; size <= 32; size++) {
                StencilCompiler x = Pipelines.twoStages();
                x.output(1, width);
                x.tile(size);
                x.compile();
                due.is("run() with width " + width + " and tile " + size, x.run(), (width + size - 1) / size);
            }
        }
    }

    private static void cellsInEverySchedule() {
        due.part("promises 9 and 10");
        for (int schedule = 0; schedule < 9 * 8; schedule++) {
            StencilCompiler x = Pipelines.twoStages();
            x.mode(0, schedule % 3);
            x.mode(1, schedule / 3 % 3);
            x.tile(schedule / 9 + 1);
            x.compile();
            x.run();
            for (int place = 0; place < 6; place++) {
                due.is("cell(" + place + ") by schedule " + schedule, x.cell(place), TWO_STAGES[place]);
                due.is("at(1, " + place + ") after run " + schedule, x.at(1, place), TWO_STAGES[place]);
            }
        }
    }

    private static void cellOutOfRange() {
        due.part("promise 10");
        StencilCompiler x = Pipelines.twoStages();
        x.compile();
        x.run();
        int[] places = {MIN, -1, 6, 7, 32, MAX};
        for (int place : places) {
            due.is("cell(" + place + ")", x.cell(place), StencilCompiler.NONE);
        }
    }

    private static void cellNeedsRun() {
        due.part("promise 10");
        StencilCompiler x = Pipelines.twoStages();
        due.is("cell(2) before compile", x.cell(2), StencilCompiler.NONE);
        x.compile();
        due.is("cell(2) before run", x.cell(2), StencilCompiler.NONE);
        x.run();
        due.is("cell(2)", x.cell(2), 10);
        due.is("compile() again", x.compile(), StencilCompiler.STATE);
        due.is("cell(2) after a compile that did nothing", x.cell(2), 10);
        x.input(4, 7);
        x.compile();
        due.is("cell(2) after a new compile", x.cell(2), StencilCompiler.NONE);
        x.run();
        due.is("cell(2) after a new run", x.cell(2), 12);
    }

    private static void cellAfterFailedCompile() {
        due.part("promise 10");
        StencilCompiler x = Pipelines.fourfold(8);
        x.output(1, 4);
        x.compile();
        x.run();
        due.is("cell(3)", x.cell(3), 4);
        x.output(7, 32);
        due.is("compile()", x.compile(), -300);
        due.is("cell(3) after a fault", x.cell(3), StencilCompiler.NONE);
    }

    private static void valuesWrap() {
        due.part("promises 9 to 11");
        StencilCompiler x = new StencilCompiler(2);
        x.input(0, MAX);
        x.input(1, MIN);
        x.stage(1, 0);
        x.tap(0, -1, 0, 1);
        x.stage(0, 3);
        x.tap(1, -1, 0, 3);
        x.stage(0, 2);
        x.tap(2, 0, 0, 1);
        x.tap(2, 1, 0, 1);
        x.output(2, 2);
        x.compile();
        x.run();
        due.is("at(0, 0)", x.at(0, 0), MIN);
        due.is("at(0, 1)", x.at(0, 1), MIN + 1);
        due.is("at(1, 0)", x.at(1, 0), MAX - 2);
        due.is("at(1, 1)", x.at(1, 1), MIN);
        due.is("cell(0)", x.cell(0), -2);
        due.is("cell(1)", x.cell(1), 0);
    }

    private static void atInAnyState() {
        due.part("promise 11");
        for (int mode = 0; mode < 3; mode++) {
            StencilCompiler x = Pipelines.twoStages();
            due.is("at(1, 2) before compile", x.at(1, 2), 10);
            x.mode(0, mode);
            x.compile();
            due.is("at(1, 2) before run", x.at(1, 2), 10);
            due.is("count(1) after at", x.count(1), 1);
            x.run();
            due.is("at(1, -100)", x.at(1, -100), 0);
            due.is("at(1, 100)", x.at(1, 100), 0);
            due.is("at(0, -1)", x.at(0, -1), 6);
            due.is("at(0, 20)", x.at(0, 20), 18);
            due.is("cell(2) after at", x.cell(2), 10);
            x.input(4, 7);
            due.is("at(1, 2) after a change", x.at(1, 2), 12);
            x.stage(5, 0);
            due.is("at(2, 0), a stage that isn't used", x.at(2, 0), 5);
        }
    }

    private static void atOutOfRange() {
        due.part("promise 11");
        StencilCompiler x = Pipelines.twoStages();
        due.is("at(-1, 0)", x.at(-1, 0), StencilCompiler.NONE);
        due.is("at(2, 0)", x.at(2, 0), StencilCompiler.NONE);
        due.is("at(MIN, 0)", x.at(MIN, 0), StencilCompiler.NONE);
        due.is("at(MAX, 0)", x.at(MAX, 0), StencilCompiler.NONE);
        due.is("at(1, -101)", x.at(1, -101), StencilCompiler.NONE);
        due.is("at(1, 101)", x.at(1, 101), StencilCompiler.NONE);
        due.is("at(1, MIN)", x.at(1, MIN), StencilCompiler.NONE);
        due.is("at(1, MAX)", x.at(1, MAX), StencilCompiler.NONE);
    }

    private static void atWorksOutAtMost3000() {
        due.part("promise 11");
        StencilCompiler x = Pipelines.threeThousand();
        due.is("at(7, 0) for 3000 values", x.at(7, 0), 2 * (1024 + 64 + 4 + 1) + 64);
        x.tap(7, 0, 0, 1);
        due.is("at(7, 0) for 3001 values", x.at(7, 0), StencilCompiler.NONE);
        due.is("at(6, 0) for 1457 values", x.at(6, 0), 1024 + 64 + 4 + 1);
        StencilCompiler y = Pipelines.fourfold(8);
        due.is("at(5, 0) for 1365 values", y.at(5, 0), 1024);
        due.is("at(6, 0) for 5461 values", y.at(6, 0), StencilCompiler.NONE);
        due.is("at(7, 0) for 21845 values", y.at(7, 0), StencilCompiler.NONE);
        for (int s = 0; s < 7; s++) {
            y.mode(s, 1);
        }
        y.output(7, 2);
        y.compile();
        y.run();
        due.is("cell(0) by rows that are kept", y.cell(0), 16384);
        due.is("at(7, 0) whatever the schedule", y.at(7, 0), StencilCompiler.NONE);
    }
}
