import java.util.Arrays;

/** A compiler for pipelines of stages over a row of numbers; ../shared/DOC.md tells its terms and promises. */
public final class StencilCompiler {
    public static final int DONE = 0;
    public static final int REFUSED = -1;
    public static final int FULL = -2;
    public static final int STATE = -3;
    public static final long NONE = -1000000000000L;

    private static final int MAX_LENGTH = 24;
    private static final int MAX_STAGES = 8;
    private static final int MAX_TAPS = 4;
    private static final int MAX_OFFSET = 4;
    private static final int MAX_FINISH = 3;
    private static final int MAX_TILE = 32;
    private static final int MAX_WIDTH = 32;
    private static final int MAX_WORK = 4000;
    private static final int MAX_ASKED_PLACE = 100;
    private static final int MAX_ASKED_VALUES = 3000;
    private static final int FIRST_TILE = 4;

    private static final int INPUT = -1;
    private static final int NO_OUTPUT = -1;

    private static final int INLINE = 0;
    private static final int ROOT = 1;
    private static final int TILED = 2;

    private static final int NO_FAULT = 0;
    private static final int FAULT_NO_OUTPUT = -100;
    private static final int FAULT_ROOT_ASKS_TILED = -200;
    private static final int FAULT_TOO_MUCH_WORK = -300;
    private static final int REGION_NOT_COMPILED = -1000;
    private static final int REGION_NOT_USED = -2000;

    /** How far before place 0 or behind the last place a chain of taps through all stages can lead. */
    private static final int REACH = MAX_OFFSET * (MAX_STAGES - 1);

    private final Pipeline pipeline;
    private final Plan plan;
    private final Runner runner;
    private boolean compiled;
    private boolean ran;

    public StencilCompiler(int length) {
        pipeline = new Pipeline(Math.max(1, Math.min(MAX_LENGTH, length)));
        plan = new Plan(pipeline);
        runner = new Runner(pipeline);
    }

    public int input(int i, int value) {
        if (i < 0 || i >= pipeline.row.length) {
            return REFUSED;
        }
        pipeline.row[i] = value;
        forgetCompiled();
        return DONE;
    }

    public int stage(int constant, int finish) {
        if (finish < 0 || finish > MAX_FINISH) {
            return REFUSED;
        }
        if (pipeline.stageCount == MAX_STAGES) {
            return FULL;
        }
        int number = pipeline.addStage(constant, finish);
        forgetCompiled();
        return number;
    }

    public int tap(int s, int source, int offset, int weight) {
        if (!pipeline.hasStage(s) || source < INPUT || source >= s
                || offset < -MAX_OFFSET || offset > MAX_OFFSET) {
            return REFUSED;
        }
        Stage stage = pipeline.stages[s];
        if (stage.tapCount == MAX_TAPS) {
            return FULL;
        }
        stage.addTap(source, offset, weight);
        forgetCompiled();
        return stage.tapCount;
    }

    public int mode(int s, int mode) {
        if (!pipeline.hasStage(s) || mode < INLINE || mode > TILED) {
            return REFUSED;
        }
        pipeline.stages[s].mode = mode;
        forgetCompiled();
        return DONE;
    }

    public int tile(int size) {
        if (size < 1 || size > MAX_TILE) {
            return REFUSED;
        }
        pipeline.tileSize = size;
        forgetCompiled();
        return DONE;
    }

    public int output(int s, int width) {
        if (!pipeline.hasStage(s) || width < 1 || width > MAX_WIDTH) {
            return REFUSED;
        }
        pipeline.output = s;
        pipeline.width = width;
        forgetCompiled();
        return DONE;
    }

    public int compile() {
        if (compiled) {
            return STATE;
        }
        int fault = plan.draw();
        if (fault != NO_FAULT) {
            return fault;
        }
        compiled = true;
        return plan.totalWork;
    }

    public int run() {
        if (!compiled) {
            return STATE;
        }
        runner.runSchedule(plan.regions);
        ran = true;
        return pipeline.tileCount();
    }

    public long cell(int x) {
        if (!ran || x < 0 || x >= pipeline.width) {
            return NONE;
        }
        return runner.results[x];
    }

    public long at(int s, int x) {
        if (!pipeline.hasStage(s) || x < -MAX_ASKED_PLACE || x > MAX_ASKED_PLACE
                || pipeline.valuesWorkedOutFor(s) > MAX_ASKED_VALUES) {
            return NONE;
        }
        return runner.workOut(s, x);
    }

    public int region(int s, boolean end) {
        if (!compiled) {
            return REGION_NOT_COMPILED;
        }
        if (!pipeline.hasStage(s) || !plan.regions.used[s]) {
            return REGION_NOT_USED;
        }
        return end ? plan.regions.last[s] : plan.regions.first[s];
    }

    public int work(int s) {
        if (!pipeline.hasStage(s)) {
            return REFUSED;
        }
        return compiled ? plan.workOf[s] : STATE;
    }

    public int count(int what) {
        switch (what) {
            case 0:
                return pipeline.stageCount;
            case 1:
                return compiled ? 1 : 0;
            case 2:
                return compiled ? plan.room : 0;
            case 3:
                return compiled ? plan.usedCount() : 0;
            case 4:
                return compiled ? pipeline.tileCount() : 0;
            case 5:
                return compiled ? plan.greatestTileNeed : 0;
            case 6:
                return compiled ? plan.totalWork : 0;
            default:
                return REFUSED;
        }
    }

    /** What a run gave belongs to the pipeline as it was COMPILED: a changed one has no results yet. */
    private void forgetCompiled() {
        compiled = false;
        ran = false;
    }

    private static final class Stage {
        private int constant;
        private int finish;
        private int mode;
        private int tapCount;
        private final int[] sources = new int[MAX_TAPS];
        private final int[] offsets = new int[MAX_TAPS];
        private final int[] weights = new int[MAX_TAPS];

        private void addTap(int source, int offset, int weight) {
            sources[tapCount] = source;
            offsets[tapCount] = offset;
            weights[tapCount] = weight;
            tapCount++;
        }

        private int finished(int v) {
            switch (finish) {
                case 1:
                    return Math.max(v, 0);
                case 2:
                    return Math.floorDiv(v, 2);
                case 3:
                    return v < 0 ? -v : v;
                default:
                    return v;
            }
        }
    }

    /** What the caller has told so far: the input, the stages, the output and the schedule. */
    private static final class Pipeline {
        private final int[] row;
        private final Stage[] stages = new Stage[MAX_STAGES];
        private final int[] valuesFor = new int[MAX_STAGES];
        private int stageCount;
        private int tileSize = FIRST_TILE;
        private int output = NO_OUTPUT;
        private int width;

        private Pipeline(int length) {
            row = new int[length];
            for (int s = 0; s < MAX_STAGES; s++) {
                stages[s] = new Stage();
            }
        }

        private boolean hasStage(int s) {
            return s >= 0 && s < stageCount;
        }

        private int addStage(int constant, int finish) {
            Stage stage = stages[stageCount];
            stage.constant = constant;
            stage.finish = finish;
            stageCount++;
            return stageCount - 1;
        }

        private int tileCount() {
            return (width + tileSize - 1) / tileSize;
        }

        private int tileFirst(int t) {
            return t * tileSize;
        }

        private int tileLast(int t) {
            return Math.min(tileFirst(t) + tileSize, width) - 1;
        }

        /** Told without working anything out, so that a question that is too dear costs nothing. */
        private int valuesWorkedOutFor(int s) {
            for (int q = 0; q <= s; q++) {
                Stage stage = stages[q];
                int values = 1;
                for (int k = 0; k < stage.tapCount; k++) {
                    int source = stage.sources[k];
                    values += source == INPUT ? 0 : valuesFor[source];
                }
                valuesFor[q] = values;
            }
            return valuesFor[s];
        }
    }

    /** Which stages are USED, and the NEED of each for one range of THE OUTPUT's places. */
    private static final class Needs {
        private final boolean[] used = new boolean[MAX_STAGES];
        private final int[] first = new int[MAX_STAGES];
        private final int[] last = new int[MAX_STAGES];

        private void spread(Pipeline pipeline, int from, int to) {
            for (int s = 0; s < MAX_STAGES; s++) {
                used[s] = false;
            }
            widen(pipeline.output, from, to);
            // Sources are earlier stages: going down, a stage's NEED is whole before it is handed on.
            for (int s = pipeline.output; s >= 0; s--) {
                if (used[s]) {
                    handOn(pipeline.stages[s], first[s], last[s]);
                }
            }
        }

        private void handOn(Stage stage, int from, int to) {
            for (int k = 0; k < stage.tapCount; k++) {
                if (stage.sources[k] != INPUT) {
                    widen(stage.sources[k], from + stage.offsets[k], to + stage.offsets[k]);
                }
            }
        }

        private void widen(int s, int from, int to) {
            first[s] = used[s] ? Math.min(first[s], from) : from;
            last[s] = used[s] ? Math.max(last[s], to) : to;
            used[s] = true;
        }

        private int lengthOf(int s) {
            return last[s] - first[s] + 1;
        }
    }

    /** What a compiled pipeline comes to before it runs. */
    private static final class Plan {
        private final Pipeline pipeline;
        private final Needs regions = new Needs();
        private final Needs tileNeeds = new Needs();
        private final boolean[] asksTiled = new boolean[MAX_STAGES];
        private final int[] workOf = new int[MAX_STAGES];
        private int totalWork;
        private int room;
        private int greatestTileNeed;

        private Plan(Pipeline pipeline) {
            this.pipeline = pipeline;
        }

        /** Answers the first FAULT, or NO_FAULT when the plan stands. */
        private int draw() {
            if (pipeline.output == NO_OUTPUT) {
                return FAULT_NO_OUTPUT;
            }
            regions.spread(pipeline, 0, pipeline.width - 1);
            int root = leastRootThatAsksTiled();
            if (root >= 0) {
                return FAULT_ROOT_ASKS_TILED - root;
            }
            Arrays.fill(workOf, 0);
            room = 0;
            greatestTileNeed = 0;
            measureOutput();
            measureRoots();
            measureTiles();
            measureInlines();
            return totalWork > MAX_WORK ? FAULT_TOO_MUCH_WORK : NO_FAULT;
        }

        private int leastRootThatAsksTiled() {
            for (int s = 0; s < pipeline.output; s++) {
                asksTiled[s] = hasTiledToWorkOut(pipeline.stages[s]);
                if (isUsedAs(s, ROOT) && asksTiled[s]) {
                    return s;
                }
            }
            return -1;
        }

        private boolean hasTiledToWorkOut(Stage stage) {
            for (int k = 0; k < stage.tapCount; k++) {
                int source = stage.sources[k];
                if (source == INPUT) {
                    continue;
                }
                int mode = pipeline.stages[source].mode;
                if (mode == TILED || mode == INLINE && asksTiled[source]) {
                    return true;
                }
            }
            return false;
        }

        private void measureOutput() {
            workOf[pipeline.output] = pipeline.width;
        }

        private void measureRoots() {
            for (int s = 0; s < pipeline.output; s++) {
                if (isUsedAs(s, ROOT)) {
                    workOf[s] = regions.lengthOf(s);
                    room += workOf[s];
                }
            }
        }

        private void measureTiles() {
            int greatestSum = 0;
            for (int t = 0; t < pipeline.tileCount(); t++) {
                tileNeeds.spread(pipeline, pipeline.tileFirst(t), pipeline.tileLast(t));
                greatestSum = Math.max(greatestSum, measureTileInHand());
            }
            room += greatestSum;
        }

        private int measureTileInHand() {
            int sum = 0;
            for (int s = 0; s < pipeline.output; s++) {
                if (isUsedAs(s, TILED)) {
                    int length = tileNeeds.lengthOf(s);
                    workOf[s] += length;
                    greatestTileNeed = Math.max(greatestTileNeed, length);
                    sum += length;
                }
            }
            return sum;
        }

        /** Goes down from THE OUTPUT, so that a stage's own work is whole before it asks its INLINE sources. */
        private void measureInlines() {
            totalWork = 0;
            for (int s = pipeline.output; s >= 0; s--) {
                totalWork += workOf[s];
                askInlineSources(s);
            }
        }

        private void askInlineSources(int s) {
            Stage stage = pipeline.stages[s];
            for (int k = 0; k < stage.tapCount; k++) {
                int source = stage.sources[k];
                if (source != INPUT && pipeline.stages[source].mode == INLINE) {
                    workOf[source] += workOf[s];
                }
            }
        }

        /** Asked of the stages before THE OUTPUT alone: its own MODE doesn't matter. */
        private boolean isUsedAs(int s, int mode) {
            return regions.used[s] && pipeline.stages[s].mode == mode;
        }

        private int usedCount() {
            int sum = 0;
            for (int s = 0; s < MAX_STAGES; s++) {
                sum += regions.used[s] ? 1 : 0;
            }
            return sum;
        }
    }

    /** Works values out, taking those that a schedule keeps from their rows. */
    private static final class Runner {
        private final Pipeline pipeline;
        private final Needs tileNeeds = new Needs();
        private final boolean[] kept = new boolean[MAX_STAGES];
        private final int[][] rows = new int[MAX_STAGES][MAX_WIDTH + 2 * REACH];
        private final int[] results = new int[MAX_WIDTH];

        private Runner(Pipeline pipeline) {
            this.pipeline = pipeline;
        }

        private void runSchedule(Needs regions) {
            keep(regions, ROOT);
            for (int t = 0; t < pipeline.tileCount(); t++) {
                runTile(pipeline.tileFirst(t), pipeline.tileLast(t));
            }
            // Outside a run nothing is kept: a value asked for then is worked out by the rule alone.
            release(ROOT);
        }

        private void runTile(int from, int to) {
            tileNeeds.spread(pipeline, from, to);
            keep(tileNeeds, TILED);
            for (int x = from; x <= to; x++) {
                results[x] = workOut(pipeline.output, x);
            }
            release(TILED);
        }

        /** Stops before THE OUTPUT, which is never kept: its own MODE doesn't matter. */
        private void keep(Needs needs, int mode) {
            for (int s = 0; s < pipeline.output; s++) {
                if (!needs.used[s] || pipeline.stages[s].mode != mode) {
                    continue;
                }
                for (int x = needs.first[s]; x <= needs.last[s]; x++) {
                    rows[s][x + REACH] = workOut(s, x);
                }
                kept[s] = true;
            }
        }

        private void release(int mode) {
            for (int s = 0; s < pipeline.output; s++) {
                kept[s] = kept[s] && pipeline.stages[s].mode != mode;
            }
        }

        /** Goes at most MAX_STAGES deep: tap refuses a source that isn't an earlier stage. */
        private int workOut(int s, int x) {
            Stage stage = pipeline.stages[s];
            int sum = stage.constant;
            for (int k = 0; k < stage.tapCount; k++) {
                sum += stage.weights[k] * sourceValue(stage.sources[k], x + stage.offsets[k]);
            }
            return stage.finished(sum);
        }

        private int sourceValue(int source, int x) {
            if (source == INPUT) {
                return pipeline.row[Math.max(0, Math.min(pipeline.row.length - 1, x))];
            }
            return kept[source] ? rows[source][x + REACH] : workOut(source, x);
        }
    }
}
