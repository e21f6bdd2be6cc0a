/** Pipelines that several tests start from. */
final class Pipelines {
    private Pipelines() {
    }

    /** Input 3, 1, 4, 1, 5, 9; stage 0 adds neighbours, stage 1 takes the difference of stage 0 at -2 and 2; W 6. */
    static StencilCompiler twoStages() {
        StencilCompiler x = new StencilCompiler(6);
        int[] cells = {3, 1, 4, 1, 5, 9};
        for (int i = 0; i < cells.length; i++) {
            x.input(i, cells[i]);
        }
        x.stage(0, 0);
        x.tap(0, -1, 0, 1);
        x.tap(0, -1, 1, 1);
        x.stage(0, 0);
        x.tap(1, 0, 2, 1);
        x.tap(1, 0, -2, -1);
        x.output(1, 6);
        return x;
    }

    /** A stage 0 with one tap of the input, and the given number of stages in all, each with four taps of the one before. */
    static StencilCompiler fourfold(int stages) {
        StencilCompiler x = new StencilCompiler(1);
        x.input(0, 1);
        x.stage(0, 0);
        x.tap(0, -1, 0, 1);
        for (int s = 1; s < stages; s++) {
            addStage(x, s - 1, s - 1, s - 1, s - 1);
        }
        return x;
    }

    /** A new stage with taps of weight 1 and offset 0 of the given sources. */
    static int addStage(StencilCompiler x, int... sources) {
        int s = x.stage(0, 0);
        for (int source : sources) {
            x.tap(s, source, 0, 1);
        }
        return s;
    }
}
