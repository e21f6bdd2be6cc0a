/** Promise 8: compile, its faults and the work that it tells. */
public final class CompileTest {
    private static final Due due = new Due();

    public static void main(String[] args) {
        due.part("promise 8");
        compiledAlready();
        noOutput();
        rootAsksTiled();
        rootAsksTiledThroughInline();
        rootsInBetweenAreNoFault();
        unusedAndOutputAreNoFault();
        leastRootIsTold();
        tooMuchWork();
        faultsInOrder();
        due.end();
    }

    private static void compiledAlready() {
        StencilCompiler x = Pipelines.twoStages();
        due.is("compile()", x.compile(), 18);
        due.is("compile() again", x.compile(), StencilCompiler.STATE);
        x.run();
        due.is("compile() after run", x.compile(), StencilCompiler.STATE);
        x.tile(4);
        due.is("compile() after a change", x.compile(), 18);
    }

    private static void noOutput() {
        StencilCompiler x = new StencilCompiler(2);
        x.stage(0, 0);
        due.is("compile() without output", x.compile(), -100);
        due.is("count(1)", x.count(1), 0);
        due.is("compile() without output again", x.compile(), -100);
        x.output(0, 1);
        due.is("compile() with output", x.compile(), 1);
    }

    private static void rootAsksTiled() {
        StencilCompiler x = Pipelines.chain(2, 1, 0);
        due.is("compile() of a root over a tiled stage", x.compile(), -201);
        due.is("count(1)", x.count(1), 0);
        due.is("run()", x.run(), StencilCompiler.STATE);
        due.is("compile() again", x.compile(), -201);
        due.is("compile() of a tiled stage over a root", Pipelines.chain(1, 2, 0).compile(), 12);
    }

    private static void rootAsksTiledThroughInline() {
        due.is("compile() of tiled, inline, root", Pipelines.chain(2, 0, 1, 0).compile(), -202);
        due.is("compile() of tiled, inline, inline, root", Pipelines.chain(2, 0, 0, 1, 0).compile(), -203);
    }

    private static void rootsInBetweenAreNoFault() {
        due.is("compile() of root, inline, root", Pipelines.chain(1, 0, 1, 0).compile(), 16);
        due.is("compile() of tiled, inline, tiled", Pipelines.chain(2, 0, 2, 0).compile(), 16);
    }

    private static void unusedAndOutputAreNoFault() {
        StencilCompiler x = Pipelines.chain(2, 1, 0);
        x.output(1, 4);
        due.is("compile() with the root as output", x.compile(), 8);
        x.output(0, 4);
        due.is("compile() with the root not used", x.compile(), 4);
        StencilCompiler y = Pipelines.chain(2, 1, 0);
        Pipelines.addStage(y, 0);
        y.output(3, 4);
        due.is("compile() with an unused root below the output", y.compile(), 8);
    }

    private static void leastRootIsTold() {
        StencilCompiler x = Pipelines.chain(2, 0, 1, 1, 0);
        due.is("compile()", x.compile(), -202);
        x.tap(3, 0, 0, 1);
        due.is("compile() with two such roots", x.compile(), -202);
        x.mode(2, 0);
        due.is("compile() with the second one alone", x.compile(), -203);
    }

    private static void tooMuchWork() {
        StencilCompiler x = Pipelines.fourThousand();
        due.is("compile() with work 4000", x.compile(), 4000);
        due.is("count(6)", x.count(6), 4000);
        StencilCompiler y = Pipelines.fourThousand();
        y.tap(7, 0, 0, 1);
        due.is("compile() with work 4001", y.compile(), -300);
        due.is("count(1)", y.count(1), 0);
        due.is("count(6)", y.count(6), 0);
        StencilCompiler z = Pipelines.fourfold(8);
        z.output(7, 32);
        due.is("compile() with the most work", z.compile(), -300);
        z.mode(6, 1);
        z.mode(5, 1);
        z.mode(4, 1);
        z.mode(3, 1);
        z.mode(2, 1);
        z.mode(1, 1);
        due.is("compile() with roots", z.compile(), 7 * 32 + 4 * 32);
    }

    private static void faultsInOrder() {
        StencilCompiler x = Pipelines.fourfold(8);
        x.mode(0, 2);
        x.mode(1, 1);
        due.is("compile() without output, all faults", x.compile(), -100);
        x.output(7, 32);
        due.is("compile() with two faults", x.compile(), -201);
        x.mode(1, 0);
        due.is("compile() with the last fault", x.compile(), -300);
    }
}
