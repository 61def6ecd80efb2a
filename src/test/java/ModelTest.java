import java.util.ArrayList;
import java.util.Arrays;
import java.util.List;

/**
 * Long runs of calls, answered by PegbarBarn and by the model. The calls follow from the run's number alone.
 *
 * <p>Three kinds of runs take turns: many assets and scenes with little in each; two scenes and two assets, which are
 * published, rendered and asked for again and again; and one asset and one scene that are filled up to the limits.
 */
public final class ModelTest {
    private static final int RUNS = 1500;
    private static final int CALLS = 512;
    private static final String[] NAMES = {
        "asset", "bone", "key", "unkey", "publish", "pose", "poseAnew", "ofAsset", "scene", "cast", "cut", "note",
        "settle", "ofNote", "render", "renderOne", "needs", "mixes", "ofFrame", "kept", "count",
    };
    // How many numbers each call takes, and how often it is made in the runs of each kind.
    private static final int[] TAKES = {0, 2, 5, 3, 1, 4, 4, 2, 1, 5, 3, 2, 1, 2, 1, 2, 1, 1, 3, 3, 1};
    private static final int[][] OFTEN = {
        {2, 10, 14, 4, 8, 6, 6, 4, 2, 10, 4, 6, 4, 6, 8, 8, 6, 6, 10, 8, 6},
        {0, 0, 12, 3, 7, 2, 2, 1, 0, 6, 1, 3, 2, 3, 6, 16, 8, 14, 16, 16, 6},
        {0, 3, 40, 4, 3, 6, 6, 2, 0, 2, 1, 10, 5, 5, 2, 2, 2, 2, 3, 3, 3},
    };
    // The calls that a run of each kind begins with: asset, bone and so on by their places in NAMES.
    private static final int[][][] FIRST = {
        {{0}, {0}, {0}, {8, 12}, {8, 5}},
        {{0}, {0}, {1, 0, -1}, {1, 0, 0}, {1, 1, -1}, {8, 16}, {8, 6}, {9, 0, 0, -1, 0, 39}, {9, 0, 1, -1, 4, 11}},
        {{0}, {1, 0, -1}, {8, 40}},
    };

    private final PegbarBarn barn = new PegbarBarn();
    private final Model model = new Model();
    private final int run;
    private final int kind;
    private long state;

    public static void main(String[] args) {
        for (int run = 0; run < RUNS; run++) {
            new ModelTest(run).oneRun();
        }
        Check.end();
    }

    private ModelTest(int run) {
        this.run = run;
        kind = run % OFTEN.length;
        state = 1000003L * run + 12345;
    }

    private int below(int bound) {
        state = state * 6364136223846793005L + 1442695040888963407L;
        return (int) ((state >>> 33) % bound);
    }

    private int odd() {
        int[] odd = {-1, -2, 0, 7, 8, 10, 12, 39, 40, 41, 99, 100, Integer.MIN_VALUE, Integer.MAX_VALUE, 1000, -1000};
        return odd[below(odd.length)];
    }

    private void oneRun() {
        int[][] first = FIRST[kind];
        for (int i = 0; i < CALLS; i++) {
            if (i < first.length) {
                make(i, first[i][0], Arrays.copyOfRange(first[i], 1, first[i].length));
            } else {
                int call = pick();
                make(i, call, numbers(call));
            }
        }
    }

    private void make(int place, int call, int[] a) {
        String due = Check.answer(() -> told(model, call, a));
        StringBuilder words = new StringBuilder("run " + run + ", call " + place + ": " + NAMES[call] + "(");
        for (int j = 0; j < a.length; j++) {
            words.append(j == 0 ? "" : ", ").append(a[j]);
        }
        Check.due(words.append(")").toString(), due, () -> asked(barn, call, a));
    }

    private int pick() {
        int sum = 0;
        for (int often : OFTEN[kind]) {
            sum += often;
        }
        int at = below(sum);
        for (int i = 0; i < NAMES.length; i++) {
            at -= OFTEN[kind][i];
            if (at < 0) {
                return i;
            }
        }
        return 0;
    }

    /** Numbers that mostly are there, or are next to those. */
    private int[] numbers(int call) {
        int asset = below(model.assets.size());
        int scene = below(model.scenes.size());
        Model.Rig draft = model.assets.get(asset).draft;
        int versions = model.assets.get(asset).versions.size();
        int version = below(versions + 1) - 1;
        int bones = Math.max(1, (version == -1 ? draft : model.assets.get(asset).versions.get(version)).parents.size());
        int bone = below(Math.max(1, draft.parents.size()));
        int frames = model.scenes.get(scene).frames.size();
        int frame = kind == 2 ? below(100) : below(4) == 0 ? below(100) : below(12);
        int[] a = new int[TAKES[call]];
        switch (NAMES[call]) {
            case "bone" -> set(a, asset, below(draft.parents.size() + 1) - 1);
            case "key" -> set(a, asset, bone, frame, value(), below(3));
            case "unkey" -> set(a, asset, bone, keyedFrame(draft, bone, frame));
            case "publish" -> set(a, asset);
            case "pose", "poseAnew" -> set(a, asset, version, below(bones), below(2) == 0 ? frame : below(100));
            case "ofAsset" -> set(a, asset, below(3));
            case "scene" -> set(a, 1 + below(below(3) == 0 ? 40 : 12));
            case "cast" -> {
                int from = below(5);
                set(a, scene, asset, below(3) > 0 ? -1 : version, from, from + below(12));
            }
            case "cut" -> set(a, scene, below(frames), 1 + below(3));
            case "note" -> set(a, scene, below(frames));
            case "settle" -> set(a, below(model.notes.size() + 1));
            case "ofNote" -> set(a, below(model.notes.size() + 1), below(4));
            case "render", "needs", "mixes" -> set(a, scene);
            case "renderOne" -> set(a, scene, below(frames));
            case "ofFrame" -> set(a, scene, below(frames), below(6));
            case "kept" -> set(a, scene, below(frames), asset);
            case "count" -> set(a, below(7));
            default -> set(a);
        }
        if (a.length > 0 && below(25) == 0) {
            a[below(a.length)] = odd();
        }
        return a;
    }

    /** Half of the time a frame that has a key. */
    private int keyedFrame(Model.Rig draft, int bone, int frame) {
        if (bone >= draft.curves.size() || draft.curves.get(bone).isEmpty() || below(2) == 0) {
            return frame;
        }
        List<Integer> keyed = new ArrayList<>(draft.curves.get(bone).keySet());
        return keyed.get(below(keyed.size()));
    }

    private int value() {
        return below(5) == 0 ? below(1999) - 999 : below(9) - 4;
    }

    private static void set(int[] a, int... numbers) {
        System.arraycopy(numbers, 0, a, 0, a.length);
    }

    private static Object asked(PegbarBarn x, int call, int[] a) {
        return switch (NAMES[call]) {
            case "asset" -> x.asset();
            case "bone" -> x.bone(a[0], a[1]);
            case "key" -> x.key(a[0], a[1], a[2], a[3], a[4]);
            case "unkey" -> x.unkey(a[0], a[1], a[2]);
            case "publish" -> x.publish(a[0]);
            case "pose" -> x.pose(a[0], a[1], a[2], a[3]);
            case "poseAnew" -> x.poseAnew(a[0], a[1], a[2], a[3]);
            case "ofAsset" -> x.ofAsset(a[0], a[1]);
            case "scene" -> x.scene(a[0]);
            case "cast" -> x.cast(a[0], a[1], a[2], a[3], a[4]);
            case "cut" -> x.cut(a[0], a[1], a[2]);
            case "note" -> x.note(a[0], a[1]);
            case "settle" -> x.settle(a[0]);
            case "ofNote" -> x.ofNote(a[0], a[1]);
            case "render" -> x.render(a[0]);
            case "renderOne" -> x.renderOne(a[0], a[1]);
            case "needs" -> x.needs(a[0]);
            case "mixes" -> x.mixes(a[0]);
            case "ofFrame" -> x.ofFrame(a[0], a[1], a[2]);
            case "kept" -> x.kept(a[0], a[1], a[2]);
            default -> x.count(a[0]);
        };
    }

    private static Object told(Model m, int call, int[] a) {
        return switch (NAMES[call]) {
            case "asset" -> m.asset();
            case "bone" -> m.bone(a[0], a[1]);
            case "key" -> m.key(a[0], a[1], a[2], a[3], a[4]);
            case "unkey" -> m.unkey(a[0], a[1], a[2]);
            case "publish" -> m.publish(a[0]);
            case "pose", "poseAnew" -> m.pose(a[0], a[1], a[2], a[3]);
            case "ofAsset" -> m.ofAsset(a[0], a[1]);
            case "scene" -> m.scene(a[0]);
            case "cast" -> m.cast(a[0], a[1], a[2], a[3], a[4]);
            case "cut" -> m.cut(a[0], a[1], a[2]);
            case "note" -> m.note(a[0], a[1]);
            case "settle" -> m.settle(a[0]);
            case "ofNote" -> m.ofNote(a[0], a[1]);
            case "render" -> m.render(a[0]);
            case "renderOne" -> m.renderOne(a[0], a[1]);
            case "needs" -> m.needs(m.sceneOf(a[0]));
            case "mixes" -> m.mixes(a[0]);
            case "ofFrame" -> m.ofFrame(a[0], a[1], a[2]);
            case "kept" -> m.kept(a[0], a[1], a[2]);
            default -> m.count(a[0]);
        };
    }
}
