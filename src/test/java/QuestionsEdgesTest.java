/** The edges that promises 12 to 14 name, a test for each sentence. */
public final class QuestionsEdgesTest {
    private static final Due due = new Due();
    private static final int MIN = Integer.MIN_VALUE;
    private static final int MAX = Integer.MAX_VALUE;
    private static final int[] NO_STAGES = {MIN, -2, -1, 4, 5, 7, 8, 9, MAX};

    public static void main(String[] args) {
        regionNotCompiled();
        regionOfNoSuchStage();
        regionOfUnused();
        regionOfOutput();
        regionOfOnePlace();
        regionFarthest();
        workOfNoSuchStage();
        workNotCompiled();
        workOfUnused();
        workOfOutput();
        countOfAnotherWhat();
        countStages();
        countCompiled();
        countNotCompiled();
        countRoom();
        countUsed();
        countTiles();
        countGreatestTileNeed();
        countWork();
        due.end();
    }

    /** Four stages, of which 0 is USED by the output 2, and 1 and 3 are not; W 3. */
    private static StencilCompiler half() {
        StencilCompiler x = new StencilCompiler(1);
        Pipelines.addStage(x, -1);
        Pipelines.addStage(x, 0);
        Pipelines.addStage(x, 0);
        Pipelines.addStage(x, 2);
        x.output(2, 3);
        return x;
    }

    private static void isRegion(StencilCompiler x, int s, int first, int last) {
        due.is("region(" + s + ", false)", x.region(s, false), first);
        due.is("region(" + s + ", true)", x.region(s, true), last);
    }

    private static void regionNotCompiled() {
        due.part("promise 12: Not COMPILED: -1000");
        isRegion(new StencilCompiler(1), 0, -1000, -1000);
        StencilCompiler x = half();
        for (int s = -1; s < 5; s++) {
            isRegion(x, s, -1000, -1000);
        }
        x.compile();
        isRegion(x, 2, 0, 2);
        x.input(0, 0);
        isRegion(x, 2, -1000, -1000);
        isRegion(x, 9, -1000, -1000);
        StencilCompiler faulty = Pipelines.chain(2, 1, 0);
        faulty.compile();
        isRegion(faulty, 2, -1000, -1000);
    }

    private static void regionOfNoSuchStage() {
        due.part("promise 12: no such stage: -2000");
        StencilCompiler x = half();
        x.compile();
        for (int s : NO_STAGES) {
            isRegion(x, s, -2000, -2000);
        }
    }

    private static void regionOfUnused() {
        due.part("promise 12: or not USED: -2000");
        StencilCompiler x = half();
        x.compile();
        isRegion(x, 1, -2000, -2000);
        isRegion(x, 3, -2000, -2000);
        isRegion(x, 0, 0, 2);
        x.output(3, 3);
        x.compile();
        isRegion(x, 3, 0, 2);
        x.output(0, 3);
        x.compile();
        isRegion(x, 3, -2000, -2000);
        isRegion(x, 2, -2000, -2000);
    }

    private static void regionOfOutput() {
        due.part("promise 12: THE OUTPUT's REGION");
        for (int width = 1; width <= 32; width += 31) {
            StencilCompiler x = half();
            x.output(2, width);
            x.compile();
            isRegion(x, 2, 0, width - 1);
        }
    }

    private static void regionOfOnePlace() {
        due.part("promise 12: The first place or the last one, being the same");
        StencilCompiler x = new StencilCompiler(1);
        x.stage(0, 0);
        x.stage(0, 0);
        x.tap(1, 0, -1, 1);
        x.output(1, 1);
        x.compile();
        isRegion(x, 0, -1, -1);
    }

    private static void regionFarthest() {
        due.part("promise 12: the farthest REGION that eight stages can have");
        int[] modes = {0, 1, 2};
        for (int mode : modes) {
            StencilCompiler x = new StencilCompiler(24);
            x.input(0, 1);
            x.input(23, 2);
            for (int s = 0; s < 8; s++) {
                x.stage(0, 0);
                x.tap(s, s - 1, -4, 1);
                x.tap(s, s - 1, 4, 1);
                // The other stages are kept, so that the work stays below 4000.
                x.mode(s, s == 0 ? mode : 1 + mode / 2);
            }
            x.tile(32);
            x.output(7, 32);
            due.is("compile() is no fault", Math.min(x.compile(), 0), 0);
            isRegion(x, 0, -28, 59);
            isRegion(x, 6, -4, 35);
            x.run();
            due.is("cell(0)", x.cell(0), x.at(7, 0));
            due.is("cell(31)", x.cell(31), x.at(7, 31));
        }
    }

    private static void workOfNoSuchStage() {
        due.part("promise 13: No such stage: REFUSED");
        StencilCompiler x = half();
        for (int s : NO_STAGES) {
            due.is("work(" + s + ") before compile", x.work(s), StencilCompiler.REFUSED);
        }
        x.compile();
        for (int s : NO_STAGES) {
            due.is("work(" + s + ")", x.work(s), StencilCompiler.REFUSED);
        }
    }

    private static void workNotCompiled() {
        due.part("promise 13: not COMPILED: STATE");
        StencilCompiler x = half();
        for (int s = 0; s < 4; s++) {
            due.is("work(" + s + ") before compile", x.work(s), StencilCompiler.STATE);
        }
        x.compile();
        x.mode(3, 0);
        for (int s = 0; s < 4; s++) {
            due.is("work(" + s + ") after a change", x.work(s), StencilCompiler.STATE);
        }
        StencilCompiler faulty = Pipelines.chain(2, 1, 0);
        faulty.compile();
        due.is("work(0) after a fault", faulty.work(0), StencilCompiler.STATE);
    }

    private static void workOfUnused() {
        due.part("promise 13: 0 if it isn't USED");
        for (int mode = 0; mode < 3; mode++) {
            StencilCompiler x = half();
            x.mode(1, mode);
            x.mode(3, mode);
            due.is("compile() in mode " + mode, x.compile(), 6);
            due.is("work(1) in mode " + mode, x.work(1), 0);
            due.is("work(3) in mode " + mode, x.work(3), 0);
            x.output(3, 3);
            x.compile();
            due.is("work(3) as output", x.work(3), 3);
            x.output(0, 3);
            x.compile();
            due.is("work(3) not used again", x.work(3), 0);
            due.is("work(2) not used again", x.work(2), 0);
        }
    }

    private static void workOfOutput() {
        due.part("promise 13: The WORK of THE OUTPUT");
        for (int width = 1; width <= 32; width += 31) {
            for (int mode = 0; mode < 3; mode++) {
                StencilCompiler x = Pipelines.neighbours(2, width, 1);
                x.mode(1, mode);
                x.compile();
                due.is("work(1) with W " + width + " in mode " + mode, x.work(1), width);
                due.is("work(0) with W " + width, x.work(0), 3 * width);
            }
        }
    }

    private static void countOfAnotherWhat() {
        due.part("promise 14: another what: REFUSED");
        int[] others = {MIN, -2, -1, 7, 8, MAX};
        StencilCompiler x = half();
        for (int what : others) {
            due.is("count(" + what + ") before compile", x.count(what), StencilCompiler.REFUSED);
        }
        x.compile();
        for (int what : others) {
            due.is("count(" + what + ")", x.count(what), StencilCompiler.REFUSED);
        }
        due.is("count(1)", x.count(1), 1);
    }

    private static void countStages() {
        due.part("promise 14: Stages (0)");
        StencilCompiler x = new StencilCompiler(1);
        for (int s = 0; s < 8; s++) {
            due.is("count(0) with " + s, x.count(0), s);
            x.stage(0, 0);
        }
        x.stage(0, 0);
        due.is("count(0) with 8", x.count(0), 8);
        x.output(3, 1);
        x.compile();
        due.is("count(0) COMPILED", x.count(0), 8);
    }

    private static void countCompiled() {
        due.part("promise 14: 1 if COMPILED, else 0 (1)");
        StencilCompiler x = Pipelines.chain(2, 1, 0);
        due.is("count(1) before compile", x.count(1), 0);
        x.compile();
        due.is("count(1) after a fault", x.count(1), 0);
        x.mode(1, 2);
        x.compile();
        due.is("count(1) after compile", x.count(1), 1);
        x.run();
        due.is("count(1) after run", x.count(1), 1);
        x.tile(9);
        due.is("count(1) after a change", x.count(1), 0);
    }

    private static void countNotCompiled() {
        due.part("promise 14: and if COMPILED, else 0");
        StencilCompiler x = Pipelines.chain(1, 2, 0);
        int[] compiled = {3, 1, 4 + 4, 3, 1, 4, 12};
        int[] not = {3, 0, 0, 0, 0, 0, 0};
        for (int round = 0; round < 2; round++) {
            for (int what = 0; what <= 6; what++) {
                due.is("count(" + what + ") not COMPILED", x.count(what), not[what]);
            }
            x.compile();
            for (int what = 0; what <= 6; what++) {
                due.is("count(" + what + ") COMPILED", x.count(what), compiled[what]);
            }
            x.input(0, 0);
        }
    }

    private static void countRoom() {
        due.part("promise 14: the ROOM (2)");
        int[] rooms = {0, 34, 6};
        for (int mode = 0; mode < 3; mode++) {
            StencilCompiler x = Pipelines.neighbours(mode, 32, 4);
            x.compile();
            due.is("count(2) in mode " + mode, x.count(2), rooms[mode]);
            x.output(0, 32);
            x.compile();
            due.is("count(2) in mode " + mode + " as output", x.count(2), 0);
        }
    }

    private static void countUsed() {
        due.part("promise 14: USED stages (3)");
        StencilCompiler x = half();
        int[] used = {1, 2, 2, 3};
        for (int s = 0; s < 4; s++) {
            x.output(s, 1);
            x.compile();
            due.is("count(3) with output " + s, x.count(3), used[s]);
        }
        StencilCompiler y = Pipelines.fourfold(8);
        for (int s = 1; s < 8; s++) {
            y.mode(s, 1);
        }
        y.output(7, 1);
        y.compile();
        due.is("count(3) with all", y.count(3), 8);
    }

    private static void countTiles() {
        due.part("promise 14: TILES (4)");
        for (int width = 1; width <= 32; width++) {
            StencilCompiler x = half();
            x.output(2, width);
            x.tile(width);
            x.compile();
            due.is("count(4) with T W " + width, x.count(4), 1);
            x.tile(1);
            x.compile();
            due.is("count(4) with T 1 and W " + width, x.count(4), width);
            x.tile(Math.max(1, width - 1));
            x.compile();
            due.is("count(4) with T just below W " + width, x.count(4), width == 1 ? 1 : 2);
        }
    }

    private static void countGreatestTileNeed() {
        due.part("promise 14: the greatest TILE NEED of a USED TILED stage, in places (5)");
        StencilCompiler x = Pipelines.neighbours(2, 5, 4);
        x.compile();
        due.is("count(5), the last tile being short", x.count(5), 6);
        x.tile(32);
        x.compile();
        due.is("count(5), one tile that is cut off", x.count(5), 7);
        x.mode(0, 1);
        x.compile();
        due.is("count(5) without a tiled stage", x.count(5), 0);
        Pipelines.addStage(x, 1, 0);
        Pipelines.addStage(x, 2);
        x.mode(1, 2);
        x.mode(2, 2);
        x.output(3, 5);
        x.tile(1);
        x.compile();
        due.is("count(5) of stages that need one place", x.count(5), 1);
        x.mode(0, 2);
        x.compile();
        due.is("count(5), the first stage needing most", x.count(5), 3);
        due.is("count(2), the sum of all three", x.count(2), 3 + 1 + 1);
        x.output(1, 5);
        x.mode(0, 0);
        x.compile();
        due.is("count(5) with unused tiled stages", x.count(5), 0);
    }

    private static void countWork() {
        due.part("promise 14: the WORK of all stages (6)");
        StencilCompiler x = half();
        x.output(0, 1);
        x.compile();
        due.is("count(6), the least", x.count(6), 1);
        StencilCompiler y = Pipelines.fourThousand();
        y.compile();
        due.is("count(6), the most", y.count(6), 4000);
        y.tap(7, 0, 0, 1);
        y.compile();
        due.is("count(6) after a fault", y.count(6), 0);
    }
}
