import java.util.ArrayList;
import java.util.HashMap;
import java.util.List;
import java.util.Map;

/**
 * The document's rules once more, found in another way than the program finds them: needs from the
 * paths between stages, work by counting in a run that is really made, values in long arithmetic.
 */
final class Model {
    private static final int TOO_MUCH = 4000;

    private record Tap(int source, int offset, int weight) {
    }

    private static final class Stage {
        int constant;
        int finish;
        int mode;
        final List<Tap> taps = new ArrayList<>();
    }

    private final int[] row;
    private final List<Stage> stages = new ArrayList<>();
    private int tile = 4;
    private int output = -1;
    private int width;
    private boolean compiled;
    private boolean ran;

    private final int[] work = new int[8];
    private int total;
    private int room;
    private int greatestTileNeed;
    private final Map<Integer, Map<Integer, Integer>> kept = new HashMap<>();
    private final Map<Integer, Integer> cells = new HashMap<>();

    Model(int length) {
        row = new int[length < 1 ? 1 : length > 24 ? 24 : length];
    }

    private int changed(int answer) {
        compiled = false;
        ran = false;
        return answer;
    }

    private boolean isStage(int s) {
        return 0 <= s && s < stages.size();
    }

    int input(int i, int value) {
        if (i < 0 || i >= row.length) {
            return -1;
        }
        row[i] = value;
        return changed(0);
    }

    int stage(int constant, int finish) {
        if (finish < 0 || finish > 3) {
            return -1;
        }
        if (stages.size() == 8) {
            return -2;
        }
        Stage stage = new Stage();
        stage.constant = constant;
        stage.finish = finish;
        stages.add(stage);
        return changed(stages.size() - 1);
    }

    int tap(int s, int source, int offset, int weight) {
        if (!isStage(s) || source < -1 || source > s - 1 || offset < -4 || offset > 4) {
            return -1;
        }
        List<Tap> taps = stages.get(s).taps;
        if (taps.size() == 4) {
            return -2;
        }
        taps.add(new Tap(source, offset, weight));
        return changed(taps.size());
    }

    int mode(int s, int mode) {
        if (!isStage(s) || mode < 0 || mode > 2) {
            return -1;
        }
        stages.get(s).mode = mode;
        return changed(0);
    }

    int tile(int size) {
        if (size < 1 || size > 32) {
            return -1;
        }
        tile = size;
        return changed(0);
    }

    int output(int s, int w) {
        if (!isStage(s) || w < 1 || w > 32) {
            return -1;
        }
        output = s;
        width = w;
        return changed(0);
    }

    int compile() {
        if (compiled) {
            return -3;
        }
        if (output < 0) {
            return -100;
        }
        for (int s = 0; s < output; s++) {
            if (isUsed(s) && stages.get(s).mode == 1 && reachesTiled(s)) {
                return -200 - s;
            }
        }
        makeRun();
        if (total > TOO_MUCH) {
            return -300;
        }
        compiled = true;
        return total;
    }

    int run() {
        if (!compiled) {
            return -3;
        }
        ran = true;
        return tiles();
    }

    long cell(int x) {
        return compiled && ran && 0 <= x && x < width ? cells.get(x) : -1000000000000L;
    }

    long at(int s, int x) {
        if (!isStage(s) || x < -100 || x > 100 || cost(s) > 3000) {
            return -1000000000000L;
        }
        kept.clear();
        int[] before = work.clone();
        int totalBefore = total;
        total = 0;
        int value = workOut(s, x);
        System.arraycopy(before, 0, work, 0, 8);
        total = totalBefore;
        return value;
    }

    int region(int s, boolean end) {
        if (!compiled) {
            return -1000;
        }
        if (!isStage(s) || !isUsed(s)) {
            return -2000;
        }
        return end ? width - 1 + farthest(output, s, 1) : -farthest(output, s, -1);
    }

    int work(int s) {
        if (!isStage(s)) {
            return -1;
        }
        return compiled ? work[s] : -3;
    }

    int count(int what) {
        if (what < 0 || what > 6) {
            return -1;
        }
        if (what == 0) {
            return stages.size();
        }
        if (!compiled) {
            return 0;
        }
        int used = 0;
        for (int s = 0; s < stages.size(); s++) {
            used += isUsed(s) ? 1 : 0;
        }
        int[] answers = {0, 1, room, used, tiles(), greatestTileNeed, total};
        return answers[what];
    }

    private int tiles() {
        int n = 0;
        while (n * tile < width) {
            n++;
        }
        return n;
    }

    private boolean isUsed(int s) {
        return farthest(output, s, 1) != null;
    }

    /** The greatest sum of sign times OFFSET over the paths of taps from one stage to another, null without a path. */
    private Integer farthest(int from, int to, int sign) {
        if (from == to) {
            return 0;
        }
        Integer best = null;
        if (from > to) {
            for (Tap tap : stages.get(from).taps) {
                Integer rest = farthest(tap.source, to, sign);
                if (rest != null && (best == null || rest + sign * tap.offset > best)) {
                    best = rest + sign * tap.offset;
                }
            }
        }
        return best;
    }

    private boolean reachesTiled(int s) {
        for (Tap tap : stages.get(s).taps) {
            if (tap.source >= 0) {
                int mode = stages.get(tap.source).mode;
                if (mode == 2 || mode == 0 && reachesTiled(tap.source)) {
                    return true;
                }
            }
        }
        return false;
    }

    private long cost(int s) {
        long sum = 1;
        for (Tap tap : stages.get(s).taps) {
            sum += tap.source < 0 ? 0 : cost(tap.source);
        }
        return sum;
    }

    private void makeRun() {
        java.util.Arrays.fill(work, 0);
        total = 0;
        room = 0;
        greatestTileNeed = 0;
        kept.clear();
        cells.clear();
        for (int s = 0; s < output; s++) {
            if (stages.get(s).mode == 1 && isUsed(s)) {
                room += keep(s, 0, width - 1);
            }
        }
        int most = 0;
        for (int t = 0; t < tiles(); t++) {
            most = Math.max(most, makeTile(t * tile, Math.min(width, t * tile + tile) - 1));
        }
        room += most;
    }

    private int makeTile(int from, int to) {
        int sum = 0;
        for (int s = 0; s < output; s++) {
            if (stages.get(s).mode == 2 && isUsed(s)) {
                int length = keep(s, from, to);
                greatestTileNeed = Math.max(greatestTileNeed, length);
                sum += length;
            }
        }
        for (int x = from; x <= to; x++) {
            cells.put(x, workOut(output, x));
        }
        for (int s = 0; s < output; s++) {
            if (stages.get(s).mode == 2) {
                kept.remove(s);
            }
        }
        return sum;
    }

    private int keep(int s, int from, int to) {
        Map<Integer, Integer> values = new HashMap<>();
        int first = from - farthest(output, s, -1);
        int last = to + farthest(output, s, 1);
        for (int x = first; x <= last; x++) {
            values.put(x, workOut(s, x));
        }
        kept.put(s, values);
        return last - first + 1;
    }

    private int workOut(int s, int x) {
        if (total > TOO_MUCH) {
            return 0;
        }
        work[s]++;
        total++;
        Stage stage = stages.get(s);
        long v = stage.constant;
        for (Tap tap : stage.taps) {
            v = (int) (v + (long) tap.weight * ask(tap.source, x + tap.offset));
        }
        switch (stage.finish) {
            case 1:
                return v > 0 ? (int) v : 0;
            case 2:
                return (int) ((v - (v & 1)) / 2);
            case 3:
                return (int) (v < 0 ? -v : v);
            default:
                return (int) v;
        }
    }

    private long ask(int source, int x) {
        if (source < 0) {
            return row[x < 0 ? 0 : x >= row.length ? row.length - 1 : x];
        }
        if (kept.containsKey(source)) {
            // A place that was not kept shows as a null: a need that the document tells too small.
            return kept.get(source).get(x);
        }
        return workOut(source, x);
    }
}
