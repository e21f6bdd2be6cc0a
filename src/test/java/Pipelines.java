/** Pipelines that several tests start from. */
final class Pipelines {
    private Pipelines() {
    }

    /** Input 3, 1, 4, 1, 5, 9; stage 0 adds neighbours, stage 1 takes the difference of stage 0 at -2 and 2; W 6. */
    static StencilCompiler twoStages() {
        StencilCompiler x = new StencilCompiler(6);
        int[] cells = {3, 1, 4, 1, 5, 9};
        for (int i = 0; i < cells.length; i++) {
            x.input(i, cells[i]);
        }
        x.stage(0, 0);
        x.tap(0, -1, 0, 1);
        x.tap(0, -1, 1, 1);
        x.stage(0, 0);
        x.tap(1, 0, 2, 1);
        x.tap(1, 0, -2, -1);
        x.output(1, 6);
        return x;
    }

    /** A stage 0 with one tap of the input, and the given number of stages in all, each with four taps of the one before. */
    static StencilCompiler fourfold(int stages) {
        StencilCompiler x = new StencilCompiler(1);
        x.input(0, 1);
        x.stage(0, 0);
        x.tap(0, -1, 0, 1);
        for (int s = 1; s < stages; s++) {
            addStage(x, s - 1, s - 1, s - 1, s - 1);
        }
        return x;
    }

    /** A new stage with taps of weight 1 and offset 0 of the given sources. */
    static int addStage(StencilCompiler x, int... sources) {
        int s = x.stage(0, 0);
        for (int source : sources) {
            x.tap(s, source, 0, 1);
        }
        return s;
    }

    /** Stages in the given modes, each with one tap of the one before, the last being the output with W 4. */
    static StencilCompiler chain(int... modes) {
        StencilCompiler x = new StencilCompiler(2);
        for (int s = 0; s < modes.length; s++) {
            addStage(x, s - 1);
            x.mode(s, modes[s]);
        }
        x.output(modes.length - 1, 4);
        return x;
    }

    /** Stage 0 in the given mode under an output with taps of it at offsets -1 and 1. */
    static StencilCompiler neighbours(int mode, int width, int tile) {
        StencilCompiler x = new StencilCompiler(24);
        for (int i = 0; i < 24; i++) {
            x.input(i, i * i);
        }
        addStage(x, -1);
        x.stage(0, 0);
        x.tap(1, 0, -1, 1);
        x.tap(1, 0, 1, 1);
        x.mode(0, mode);
        x.output(1, width);
        x.tile(tile);
        return x;
    }

    /** Stages whose last one works out 3000 values for a place, or 3001 with a further tap of stage 0. */
    static StencilCompiler threeThousand() {
        StencilCompiler x = fourfold(6);
        addStage(x, 5, 3, 1, 0);
        addStage(x, 6, 6, 3);
        return x;
    }

    /** Stages whose last one works out 4000 values for a place, or 4001 with a further tap of stage 0; W 1. */
    static StencilCompiler fourThousand() {
        StencilCompiler x = fourfold(5);
        addStage(x, 4, 4, 4, 2);
        addStage(x, 5, 4, 3, 1);
        addStage(x, 6, 6, 5);
        x.output(7, 1);
        return x;
    }
}
