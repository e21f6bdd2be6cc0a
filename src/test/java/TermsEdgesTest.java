/** The edges that the document names before its promises, a test for each sentence. */
public final class TermsEdgesTest {
    private static final Due due = new Due();
    private static final int MIN = Integer.MIN_VALUE;
    private static final int MAX = Integer.MAX_VALUE;

    public static void main(String[] args) {
        lastOf512Calls();
        oneCellIsNearestToAll();
        nearestOf24Cells();
        nearestCellFarOut();
        nearestCellInRun();
        atMostEightStages();
        atMostFourTapsEach();
        everyOffset();
        weightsAtTheEdge();
        sumsWrap();
        finishComesAfterWrapping();
        finishNone();
        finishGreaterOfZero();
        finishHalfRoundedDown();
        finishWithoutSign();
        outputModeDoesNotMatter();
        usedByWeightZero();
        notUsedByUnused();
        needOnOneSide();
        needIsOneRange();
        needOfUnusedTapsIsLeftOut();
        needByTwoPaths();
        tilesAreCutOff();
        inlineEachTimeAnew();
        roomOfNothingKept();
        roomOfSeveralRoots();
        roomOfGreatestTile();
        roomLeavesOutUnused();
        argumentsBeforeFull();
        argumentsBeforeState();
        questionsKeepCompiled();
        due.end();
    }

    private static void lastOf512Calls() {
        due.part("at most 512 calls");
        StencilCompiler x = new StencilCompiler(2);
        due.is("stage(0, 0)", x.stage(0, 0), 0);
        due.is("tap(0, -1, 0, 1)", x.tap(0, -1, 0, 1), 1);
        for (int call = 3; call <= 508; call++) {
            due.is("call " + call, x.input(call % 2, call), StencilCompiler.DONE);
        }
        due.is("output(0, 2)", x.output(0, 2), StencilCompiler.DONE);
        due.is("compile()", x.compile(), 2);
        due.is("run()", x.run(), 1);
        due.is("cell(0), call 512", x.cell(0), 508);
    }

    private static void oneCellIsNearestToAll() {
        due.part("asked for another cell it gives the nearest one: N 1");
        StencilCompiler x = new StencilCompiler(1);
        x.input(0, 7);
        x.stage(0, 0);
        x.tap(0, -1, -4, 1);
        x.tap(0, -1, 4, 10);
        int[] places = {-100, -5, -4, -1, 0, 1, 4, 5, 100};
        for (int place : places) {
            due.is("at(0, " + place + ")", x.at(0, place), 77);
        }
    }

    /** The cells are 1 .. 24; stage 0 has a tap of the input at offset -4, stage 1 one at 4. */
    private static StencilCompiler over24Cells() {
        StencilCompiler x = new StencilCompiler(24);
        for (int i = 0; i < 24; i++) {
            x.input(i, i + 1);
        }
        x.stage(0, 0);
        x.tap(0, -1, -4, 1);
        x.stage(0, 0);
        x.tap(1, -1, 4, 1);
        return x;
    }

    private static void nearestOf24Cells() {
        due.part("asked for another cell it gives the nearest one: N 24");
        StencilCompiler x = over24Cells();
        due.is("at(0, 3)", x.at(0, 3), 1);
        due.is("at(0, 4)", x.at(0, 4), 1);
        due.is("at(0, 5)", x.at(0, 5), 2);
        due.is("at(0, 27)", x.at(0, 27), 24);
        due.is("at(0, 28)", x.at(0, 28), 24);
        due.is("at(1, -5)", x.at(1, -5), 1);
        due.is("at(1, -4)", x.at(1, -4), 1);
        due.is("at(1, -3)", x.at(1, -3), 2);
        due.is("at(1, 18)", x.at(1, 18), 23);
        due.is("at(1, 19)", x.at(1, 19), 24);
        due.is("at(1, 20)", x.at(1, 20), 24);
    }

    private static void nearestCellFarOut() {
        due.part("a place x (any int)");
        StencilCompiler x = new StencilCompiler(24);
        x.input(0, 3);
        x.input(23, 5);
        for (int s = 0; s < 8; s++) {
            x.stage(0, 0);
            x.tap(s, s - 1, s % 2 == 0 ? -4 : 4, 1);
        }
        due.is("at(7, -100)", x.at(7, -100), 3);
        due.is("at(7, 100)", x.at(7, 100), 5);
        StencilCompiler y = new StencilCompiler(24);
        y.input(0, 3);
        y.input(23, 5);
        for (int s = 0; s < 8; s++) {
            y.stage(0, 0);
            y.tap(s, s - 1, -4, 1);
            y.tap(s, s - 1, 4, 0);
        }
        due.is("at(7, -100), 132 places before cell 0", y.at(7, -100), 3);
        due.is("at(7, 32), just at cell 0", y.at(7, 32), 3);
        due.is("at(7, 33), just at cell 1", y.at(7, 33), 0);
        due.is("at(7, 55), just at cell 23", y.at(7, 55), 5);
        due.is("at(7, 100)", y.at(7, 100), 5);
    }

    private static void nearestCellInRun() {
        due.part("asked for another cell it gives the nearest one: in a run");
        for (int mode = 0; mode < 3; mode++) {
            StencilCompiler x = over24Cells();
            x.mode(0, mode);
            x.mode(1, mode);
            Pipelines.addStage(x, 0, 1);
            x.output(2, 32);
            x.compile();
            x.run();
            due.is("cell(0)", x.cell(0), 1 + 5);
            due.is("cell(4)", x.cell(4), 1 + 9);
            due.is("cell(19)", x.cell(19), 16 + 24);
            due.is("cell(31)", x.cell(31), 24 + 24);
        }
    }

    private static void atMostEightStages() {
        due.part("STAGES are numbered 0, 1, .. (at most 8)");
        StencilCompiler x = new StencilCompiler(1);
        for (int s = 0; s < 8; s++) {
            due.is("stage " + s, x.stage(100 + s, 0), s);
        }
        due.is("the ninth", x.stage(108, 0), StencilCompiler.FULL);
        for (int s = 0; s < 8; s++) {
            due.is("at(" + s + ", 0)", x.at(s, 0), 100 + s);
        }
        due.is("at(8, 0)", x.at(8, 0), StencilCompiler.NONE);
    }

    private static void atMostFourTapsEach() {
        due.part("A stage has at most 4 TAPS");
        StencilCompiler x = new StencilCompiler(1);
        x.input(0, 1);
        for (int s = 0; s < 8; s++) {
            x.stage(0, 0);
            for (int k = 1; k <= 4; k++) {
                due.is("tap " + k + " of stage " + s, x.tap(s, -1, 0, s + 1), k);
            }
            due.is("tap 5 of stage " + s, x.tap(s, -1, 0, s + 1), StencilCompiler.FULL);
            due.is("at(" + s + ", 0)", x.at(s, 0), 4 * (s + 1));
        }
    }

    private static void everyOffset() {
        due.part("an OFFSET -4 .. 4");
        for (int offset = -4; offset <= 4; offset++) {
            StencilCompiler x = new StencilCompiler(24);
            for (int i = 0; i < 24; i++) {
                x.input(i, i * i);
            }
            x.stage(0, 0);
            due.is("tap(0, -1, " + offset + ", 1)", x.tap(0, -1, offset, 1), 1);
            x.stage(0, 0);
            due.is("tap(1, 0, " + offset + ", 1)", x.tap(1, 0, offset, 1), 1);
            due.is("at(0, 10) by offset " + offset, x.at(0, 10), (10 + offset) * (10 + offset));
            due.is("at(1, 10) by offset " + offset, x.at(1, 10), (10 + 2 * offset) * (10 + 2 * offset));
        }
    }

    private static void weightsAtTheEdge() {
        due.part("a WEIGHT, an int");
        int[] weights = {0, -1, MAX, MIN, MIN};
        int[] cells = {9, MIN, 3, 2, MIN};
        int[] values = {0, MIN, MAX - 2, 0, 0};
        for (int k = 0; k < weights.length; k++) {
            StencilCompiler x = new StencilCompiler(1);
            x.input(0, cells[k]);
            x.stage(0, 0);
            x.tap(0, -1, 0, weights[k]);
            due.is(weights[k] + " times " + cells[k], x.at(0, 0), values[k]);
        }
    }

    /** The value of a stage over an input cell of 1, with taps of the given weights. */
    private static long finished(int finish, int constant, int... weights) {
        StencilCompiler x = new StencilCompiler(1);
        x.input(0, 1);
        x.stage(constant, finish);
        for (int weight : weights) {
            x.tap(0, -1, 0, weight);
        }
        x.output(0, 1);
        x.compile();
        x.run();
        due.is("cell(0) beside at(0, 0)", x.cell(0), x.at(0, 0));
        return x.at(0, 0);
    }

    private static void sumsWrap() {
        due.part("wrapping");
        due.is("MAX + 1", finished(0, MAX, 1), MIN);
        due.is("MIN - 1", finished(0, MIN, -1), MAX);
        due.is("MIN + MIN", finished(0, MIN, MIN), 0);
        due.is("four times MAX", finished(0, 0, MAX, MAX, MAX, MAX), -4);
        due.is("there and back", finished(0, MAX, MAX, MIN, MIN), -2);
    }

    private static void finishComesAfterWrapping() {
        due.part("FINISHED(.. wrapping)");
        due.is("greater of MAX + 1 and 0", finished(1, MAX, 1), 0);
        due.is("greater of MIN - 1 and 0", finished(1, MIN, -1), MAX);
        due.is("half of MAX + MAX", finished(2, MAX, MAX), -1);
        due.is("MAX + 2 without its sign", finished(3, MAX, 2), MAX);
    }

    private static void finishNone() {
        due.part("v for FINISH 0");
        int[] values = {MIN, -1, 0, 1, MAX};
        for (int v : values) {
            due.is("finished(" + v + ")", finished(0, v), v);
        }
    }

    private static void finishGreaterOfZero() {
        due.part("the greater of v and 0 for 1");
        due.is("finished(1)", finished(1, 1), 1);
        due.is("finished(0)", finished(1, 0), 0);
        due.is("finished(-1)", finished(1, -1), 0);
        due.is("finished(MAX)", finished(1, MAX), MAX);
        due.is("finished(MIN)", finished(1, MIN), 0);
    }

    private static void finishHalfRoundedDown() {
        due.part("v / 2 rounded down for 2");
        due.is("finished(0)", finished(2, 0), 0);
        due.is("finished(1)", finished(2, 1), 0);
        due.is("finished(3)", finished(2, 3), 1);
        due.is("finished(-1)", finished(2, -1), -1);
        due.is("finished(-2)", finished(2, -2), -1);
        due.is("finished(-3)", finished(2, -3), -2);
        due.is("finished(MAX)", finished(2, MAX), 1073741823);
        due.is("finished(MIN)", finished(2, MIN), -1073741824);
        due.is("finished(MIN + 1)", finished(2, MIN + 1), -1073741824);
    }

    private static void finishWithoutSign() {
        due.part("v without its sign for 3 (wrapping: the least int stays)");
        due.is("finished(0)", finished(3, 0), 0);
        due.is("finished(-1)", finished(3, -1), 1);
        due.is("finished(1)", finished(3, 1), 1);
        due.is("finished(MAX)", finished(3, MAX), MAX);
        due.is("finished(MIN + 1)", finished(3, MIN + 1), MAX);
        due.is("finished(MIN)", finished(3, MIN), MIN);
    }

    private static void outputModeDoesNotMatter() {
        due.part("THE OUTPUT's MODE doesn't matter");
        for (int mode = 0; mode < 3; mode++) {
            StencilCompiler x = Pipelines.neighbours(2, 6, 4);
            x.mode(1, mode);
            due.is("compile() in mode " + mode, x.compile(), 6 + 4 + 6);
            due.is("work(1) in mode " + mode, x.work(1), 6);
            due.is("count(2) in mode " + mode, x.count(2), 6);
            due.is("count(5) in mode " + mode, x.count(5), 6);
            due.is("run() in mode " + mode, x.run(), 2);
            due.is("cell(5) in mode " + mode, x.cell(5), 16 + 36);
            StencilCompiler alone = Pipelines.chain(mode);
            due.is("compile() alone in mode " + mode, alone.compile(), 4);
            due.is("count(2) alone in mode " + mode, alone.count(2), 0);
            due.is("count(5) alone in mode " + mode, alone.count(5), 0);
        }
    }

    private static void usedByWeightZero() {
        due.part("USED: the SOURCE of a TAP, of WEIGHT 0 too");
        StencilCompiler x = new StencilCompiler(1);
        x.stage(9, 0);
        x.stage(1, 0);
        x.tap(1, 0, 3, 0);
        x.output(1, 5);
        due.is("compile()", x.compile(), 10);
        due.is("count(3)", x.count(3), 2);
        due.is("region(0, true)", x.region(0, true), 7);
    }

    private static void notUsedByUnused() {
        due.part("USED: the SOURCE of a TAP of a USED stage");
        StencilCompiler x = new StencilCompiler(1);
        Pipelines.addStage(x, -1);
        Pipelines.addStage(x, 0);
        Pipelines.addStage(x, -1);
        Pipelines.addStage(x, 2);
        x.output(2, 5);
        due.is("compile()", x.compile(), 5);
        due.is("count(3)", x.count(3), 1);
        int[] unused = {0, 1, 3};
        for (int s : unused) {
            due.is("region(" + s + ", true)", x.region(s, true), -2000);
            due.is("work(" + s + ")", x.work(s), 0);
        }
        Pipelines.addStage(x, 1, 3);
        x.output(4, 5);
        x.compile();
        due.is("count(3), all", x.count(3), 5);
    }

    private static void isRegion(StencilCompiler x, int s, int first, int last) {
        due.is("region(" + s + ", false)", x.region(s, false), first);
        due.is("region(" + s + ", true)", x.region(s, true), last);
    }

    /** Stage 0 under an output of W 3 with taps of it at the given offsets. */
    private static StencilCompiler tapped(int... offsets) {
        StencilCompiler x = new StencilCompiler(1);
        x.stage(0, 0);
        x.stage(0, 0);
        for (int offset : offsets) {
            x.tap(1, 0, offset, 1);
        }
        x.mode(0, 1);
        x.output(1, 3);
        x.compile();
        return x;
    }

    private static void needOnOneSide() {
        due.part("NEED: the least range, without place 0 too");
        isRegion(tapped(4), 0, 4, 6);
        isRegion(tapped(-4), 0, -4, -2);
        isRegion(tapped(4, 4, 4, 4), 0, 4, 6);
        isRegion(tapped(1, 4), 0, 1, 6);
        isRegion(tapped(-1, -4), 0, -4, 1);
    }

    private static void needIsOneRange() {
        due.part("NEED: a range, with what lies between its ends");
        StencilCompiler x = tapped(-4, 4);
        isRegion(x, 0, -4, 6);
        due.is("work(0)", x.work(0), 11);
        due.is("count(2)", x.count(2), 11);
    }

    private static void needOfUnusedTapsIsLeftOut() {
        due.part("NEED: for every TAP of it by a USED stage");
        StencilCompiler x = new StencilCompiler(1);
        x.stage(0, 0);
        x.stage(0, 0);
        x.tap(1, 0, 4, 1);
        x.stage(0, 0);
        x.tap(2, 0, 0, 1);
        x.stage(0, 0);
        x.tap(3, 0, -4, 1);
        x.output(2, 3);
        x.compile();
        isRegion(x, 0, 0, 2);
    }

    private static void needByTwoPaths() {
        due.part("NEED: that one's NEED moved by the OFFSET");
        StencilCompiler x = new StencilCompiler(1);
        x.stage(0, 0);
        x.stage(0, 0);
        x.tap(1, 0, 4, 1);
        x.stage(0, 0);
        x.tap(2, 1, 4, 1);
        x.tap(2, 0, -4, 1);
        x.output(2, 3);
        x.compile();
        isRegion(x, 2, 0, 2);
        isRegion(x, 1, 4, 6);
        isRegion(x, 0, -4, 10);
    }

    private static void tilesAreCutOff() {
        due.part("TILE number t is the range t T .. t T + T - 1, cut off behind W - 1");
        int[] widths = {1, 1, 32, 32, 32, 31, 3, 4, 5, 8, 9};
        int[] sizes = {1, 32, 1, 32, 31, 32, 4, 4, 4, 4, 4};
        int[] tiles = {1, 1, 32, 1, 2, 1, 1, 1, 2, 2, 3};
        for (int k = 0; k < widths.length; k++) {
            StencilCompiler x = Pipelines.neighbours(2, widths[k], sizes[k]);
            String where = " with W " + widths[k] + " and T " + sizes[k];
            due.is("compile()" + where, x.compile(), 2 * widths[k] + 2 * tiles[k]);
            due.is("count(4)" + where, x.count(4), tiles[k]);
            due.is("count(5)" + where, x.count(5), Math.min(widths[k], sizes[k]) + 2);
            due.is("run()" + where, x.run(), tiles[k]);
            due.is("last cell" + where, x.cell(widths[k] - 1), x.at(1, widths[k] - 1));
            due.is("one more cell" + where, x.cell(widths[k]), StencilCompiler.NONE);
        }
    }

    private static void inlineEachTimeAnew() {
        due.part("worked out wherever its value is asked for, each time anew");
        StencilCompiler x = new StencilCompiler(1);
        Pipelines.addStage(x, -1);
        Pipelines.addStage(x, 0, 0, 0);
        Pipelines.addStage(x, 1, 1, 0);
        x.output(2, 2);
        due.is("compile()", x.compile(), 2 + 4 + 14);
        due.is("work(0)", x.work(0), 14);
        due.is("work(1)", x.work(1), 4);
    }

    private static void roomOfNothingKept() {
        due.part("The ROOM: no ROOT and no TILED stage");
        StencilCompiler x = Pipelines.neighbours(0, 32, 4);
        x.compile();
        due.is("count(2)", x.count(2), 0);
        due.is("count(5)", x.count(5), 0);
    }

    private static void roomOfSeveralRoots() {
        due.part("The ROOM: the sum of the lengths of the REGIONS of the USED ROOT stages");
        StencilCompiler x = Pipelines.neighbours(1, 5, 4);
        Pipelines.addStage(x, 0, 1);
        x.mode(1, 1);
        x.output(2, 5);
        x.compile();
        due.is("count(2)", x.count(2), 7 + 5);
        due.is("count(5)", x.count(5), 0);
    }

    private static void roomOfGreatestTile() {
        due.part("The ROOM: the greatest sum over a TILE");
        StencilCompiler x = Pipelines.neighbours(2, 5, 4);
        x.compile();
        due.is("count(2) with a short last tile", x.count(2), 6);
        Pipelines.addStage(x, 0, 1);
        x.mode(1, 2);
        x.output(2, 5);
        x.compile();
        due.is("count(2) of two tiled stages", x.count(2), 6 + 4);
        x.mode(0, 1);
        x.compile();
        due.is("count(2) of a root stage with a tiled one on top", x.count(2), 7 + 4);
    }

    private static void roomLeavesOutUnused() {
        due.part("The ROOM: USED stages, but THE OUTPUT");
        for (int mode = 1; mode < 3; mode++) {
            StencilCompiler x = Pipelines.chain(mode, 0, mode, mode);
            x.output(1, 4);
            x.compile();
            due.is("count(2) in mode " + mode, x.count(2), 4);
            x.output(0, 4);
            x.compile();
            due.is("count(2) in mode " + mode + " without sources", x.count(2), 0);
            due.is("count(5) in mode " + mode + " without sources", x.count(5), 0);
        }
    }

    private static void argumentsBeforeFull() {
        due.part("Every call first tests its arguments: before FULL");
        StencilCompiler x = Pipelines.fourfold(8);
        due.is("stage(0, 4)", x.stage(0, 4), StencilCompiler.REFUSED);
        due.is("stage(0, -1)", x.stage(0, -1), StencilCompiler.REFUSED);
        due.is("stage(0, 3)", x.stage(0, 3), StencilCompiler.FULL);
        due.is("tap(8, 0, 0, 1)", x.tap(8, 0, 0, 1), StencilCompiler.REFUSED);
        due.is("tap(7, 7, 0, 1)", x.tap(7, 7, 0, 1), StencilCompiler.REFUSED);
        due.is("tap(7, -2, 0, 1)", x.tap(7, -2, 0, 1), StencilCompiler.REFUSED);
        due.is("tap(7, 0, 5, 1)", x.tap(7, 0, 5, 1), StencilCompiler.REFUSED);
        due.is("tap(7, 0, -5, 1)", x.tap(7, 0, -5, 1), StencilCompiler.REFUSED);
        due.is("tap(7, 0, 4, 1)", x.tap(7, 0, 4, 1), StencilCompiler.FULL);
    }

    private static void argumentsBeforeState() {
        due.part("Every call first tests its arguments: before STATE and before what isn't COMPILED");
        StencilCompiler x = Pipelines.twoStages();
        due.is("work(2)", x.work(2), StencilCompiler.REFUSED);
        due.is("work(-1)", x.work(-1), StencilCompiler.REFUSED);
        due.is("work(1)", x.work(1), StencilCompiler.STATE);
        due.is("count(7)", x.count(7), StencilCompiler.REFUSED);
        due.is("count(-1)", x.count(-1), StencilCompiler.REFUSED);
        due.is("count(6)", x.count(6), 0);
    }

    private static void questionsKeepCompiled() {
        due.part("Any other call than compile, run and the questions makes the pipeline not COMPILED");
        StencilCompiler x = Pipelines.twoStages();
        x.compile();
        x.run();
        for (int k = -2; k < 9; k++) {
            x.cell(k);
            x.at(k, 0);
            x.at(1, 102 * k);
            x.region(k, false);
            x.work(k);
            x.count(k);
            due.is("count(1) after the questions of " + k, x.count(1), 1);
            due.is("cell(2) after the questions of " + k, x.cell(2), 10);
        }
        x.compile();
        due.is("count(1) after compile", x.count(1), 1);
        x.run();
        due.is("count(1) after run", x.count(1), 1);
    }
}
