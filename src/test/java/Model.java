import java.util.ArrayList;
import java.util.List;
import java.util.Map;
import java.util.TreeMap;

/**
 * PegbarBarn once more, holding everything as the document's words have it: at a frame, what was seen is kept pose by
 * pose, and a note stands in the list of its frame.
 */
final class Model {
    static final class Key {
        int value;
        int goesOn;
    }

    static final class Rig {
        final List<Integer> parents = new ArrayList<>();
        final List<TreeMap<Integer, Key>> curves = new ArrayList<>();

        Rig copy() {
            Rig copy = new Rig();
            copy.parents.addAll(parents);
            for (TreeMap<Integer, Key> curve : curves) {
                copy.curves.add(new TreeMap<>(curve));
            }
            return copy;
        }

        int pose(int bone, int frame) {
            int above = parents.get(bone) == -1 ? 0 : pose(parents.get(bone), frame);
            return above + value(curves.get(bone), frame);
        }

        private static int value(TreeMap<Integer, Key> curve, int frame) {
            Map.Entry<Integer, Key> first = curve.floorEntry(frame);
            Map.Entry<Integer, Key> next = curve.higherEntry(frame);
            if (first == null) {
                return next == null ? 0 : next.getValue().value;
            }
            int start = first.getValue().value;
            int goesOn = first.getValue().goesOn;
            if (next == null || goesOn == 0) {
                return start;
            }
            double gone = frame - first.getKey();
            double part = gone / (next.getKey() - first.getKey());
            double exact = (next.getValue().value - start) * (goesOn == 1 ? part : part * part);
            // The part is rational: what lies this close below a whole number is that number.
            return start + (int) Math.floor(exact + 1e-6);
        }
    }

    static final class Asset {
        final Rig draft = new Rig();
        final List<Rig> versions = new ArrayList<>();
    }

    record Casting(int version, int from, int to) {
    }

    static final class Frame {
        int shown;
        int times;
        Map<String, Integer> poses = new TreeMap<>();
        Map<Integer, Integer> versions = new TreeMap<>();
        final List<Note> notes = new ArrayList<>();
    }

    static final class Scene {
        final List<Frame> frames = new ArrayList<>();
        final Map<Integer, Casting> castings = new TreeMap<>();
    }

    /** A note stands in the list of its frame: where that is now is looked up. */
    static final class Note {
        Scene scene;
        boolean settled;
        int carried;
    }

    final List<Asset> assets = new ArrayList<>();
    final List<Scene> scenes = new ArrayList<>();
    final List<Note> notes = new ArrayList<>();
    int renderings;

    private static void index(boolean there) {
        if (!there) {
            throw new IndexOutOfBoundsException();
        }
    }

    private static void argument(boolean inRange) {
        if (!inRange) {
            throw new IllegalArgumentException();
        }
    }

    private static void state(boolean allowed) {
        if (!allowed) {
            throw new IllegalStateException();
        }
    }

    private static boolean within(int number, int first, int last) {
        return number >= first && number <= last;
    }

    Asset assetOf(int number) {
        index(within(number, 0, assets.size() - 1));
        return assets.get(number);
    }

    Scene sceneOf(int number) {
        index(within(number, 0, scenes.size() - 1));
        return scenes.get(number);
    }

    Frame frameOf(int scene, int number) {
        List<Frame> frames = sceneOf(scene).frames;
        index(within(number, 0, frames.size() - 1));
        return frames.get(number);
    }

    Note noteOf(int number) {
        index(within(number, 0, notes.size() - 1));
        return notes.get(number);
    }

    int asset() {
        state(assets.size() < 8);
        assets.add(new Asset());
        return assets.size() - 1;
    }

    int bone(int asset, int parent) {
        Rig draft = assetOf(asset).draft;
        index(within(parent, -1, draft.parents.size() - 1));
        state(draft.parents.size() < 10);
        draft.parents.add(parent);
        draft.curves.add(new TreeMap<>());
        return draft.parents.size() - 1;
    }

    TreeMap<Integer, Key> curveOf(int asset, int bone) {
        Rig draft = assetOf(asset).draft;
        index(within(bone, 0, draft.curves.size() - 1));
        return draft.curves.get(bone);
    }

    int key(int asset, int bone, int frame, int value, int goesOn) {
        TreeMap<Integer, Key> curve = curveOf(asset, bone);
        argument(within(frame, 0, 99) && within(value, -999, 999) && within(goesOn, 0, 2));
        state(curve.size() < 12 || curve.containsKey(frame));
        Key key = new Key();
        key.value = value;
        key.goesOn = goesOn;
        curve.put(frame, key);
        return curve.size();
    }

    boolean unkey(int asset, int bone, int frame) {
        TreeMap<Integer, Key> curve = curveOf(asset, bone);
        argument(within(frame, 0, 99));
        return curve.remove(frame) != null;
    }

    int publish(int asset) {
        Asset told = assetOf(asset);
        state(told.versions.size() < 12 && !told.draft.parents.isEmpty());
        told.versions.add(told.draft.copy());
        return told.versions.size() - 1;
    }

    int pose(int asset, int version, int bone, int frame) {
        Asset told = assetOf(asset);
        index(within(version, -1, told.versions.size() - 1));
        Rig rig = version == -1 ? told.draft : told.versions.get(version);
        index(within(bone, 0, rig.parents.size() - 1));
        argument(within(frame, 0, 99));
        return rig.pose(bone, frame);
    }

    int ofAsset(int asset, int what) {
        Asset told = assetOf(asset);
        index(within(what, 0, 2));
        int cast = (int) scenes.stream().filter(s -> s.castings.containsKey(asset)).count();
        return what == 0 ? told.draft.parents.size() : what == 1 ? told.versions.size() : cast;
    }

    int scene(int frames) {
        argument(within(frames, 1, 40));
        state(scenes.size() < 8);
        Scene scene = new Scene();
        for (int i = 0; i < frames; i++) {
            Frame frame = new Frame();
            frame.shown = i;
            scene.frames.add(frame);
        }
        scenes.add(scene);
        return scenes.size() - 1;
    }

    int cast(int scene, int asset, int version, int from, int to) {
        Scene told = sceneOf(scene);
        index(within(version, -1, assetOf(asset).versions.size() - 1));
        argument(within(from, 0, 39) && within(to, from, 39));
        told.castings.put(asset, new Casting(version, from, to));
        return told.castings.size();
    }

    int cut(int scene, int from, int many) {
        List<Frame> frames = sceneOf(scene).frames;
        frameOf(scene, from);
        argument(many >= 1);
        state((long) from + many <= frames.size() && many < frames.size());
        List<Note> carried = new ArrayList<>();
        for (int i = 0; i < many; i++) {
            carried.addAll(frames.remove(from).notes);
        }
        carried.forEach(n -> n.carried++);
        frames.get(from < frames.size() ? from : frames.size() - 1).notes.addAll(carried);
        return frames.size();
    }

    int note(int scene, int frame) {
        Frame told = frameOf(scene, frame);
        state(notes.size() < 40);
        Note note = new Note();
        note.scene = sceneOf(scene);
        told.notes.add(note);
        notes.add(note);
        return notes.size() - 1;
    }

    int settle(int note) {
        Note told = noteOf(note);
        state(!told.settled);
        told.settled = true;
        return (int) notes.stream().filter(n -> n.scene == told.scene && !n.settled).count();
    }

    int ofNote(int note, int what) {
        Note told = noteOf(note);
        index(within(what, 0, 3));
        int frame = 0;
        while (!told.scene.frames.get(frame).notes.contains(told)) {
            frame++;
        }
        int[] answers = {scenes.indexOf(told.scene), frame, told.settled ? 1 : 0, told.carried};
        return answers[what];
    }

    Map<Integer, Integer> versionsSeen(Scene scene, Frame frame) {
        Map<Integer, Integer> seen = new TreeMap<>();
        for (Map.Entry<Integer, Casting> entry : scene.castings.entrySet()) {
            Casting casting = entry.getValue();
            int latest = assets.get(entry.getKey()).versions.size() - 1;
            int version = casting.version() == -1 ? latest : casting.version();
            if (version != -1 && within(frame.shown, casting.from(), casting.to())) {
                seen.put(entry.getKey(), version);
            }
        }
        return seen;
    }

    Map<String, Integer> posesSeen(Scene scene, Frame frame) {
        Map<String, Integer> seen = new TreeMap<>();
        for (Map.Entry<Integer, Integer> entry : versionsSeen(scene, frame).entrySet()) {
            Rig rig = assets.get(entry.getKey()).versions.get(entry.getValue());
            for (int bone = 0; bone < rig.parents.size(); bone++) {
                seen.put(entry.getKey() + "/" + bone, rig.pose(bone, frame.shown));
            }
        }
        return seen;
    }

    boolean needsIt(Scene scene, Frame frame) {
        return frame.times == 0 || !frame.poses.equals(posesSeen(scene, frame));
    }

    void renderFrame(Scene scene, Frame frame) {
        frame.times++;
        renderings++;
        frame.poses = posesSeen(scene, frame);
        frame.versions = versionsSeen(scene, frame);
    }

    int render(int scene) {
        Scene told = sceneOf(scene);
        int before = renderings;
        for (Frame frame : told.frames) {
            if (needsIt(told, frame)) {
                renderFrame(told, frame);
            } else {
                frame.versions = versionsSeen(told, frame);
            }
        }
        return renderings - before;
    }

    boolean renderOne(int scene, int frame) {
        Frame told = frameOf(scene, frame);
        boolean needed = needsIt(sceneOf(scene), told);
        renderFrame(sceneOf(scene), told);
        return needed;
    }

    int needs(Scene scene) {
        return (int) scene.frames.stream().filter(f -> needsIt(scene, f)).count();
    }

    int mixes(int scene) {
        Scene told = sceneOf(scene);
        int mixed = 0;
        for (Map.Entry<Integer, Casting> entry : told.castings.entrySet()) {
            int asset = entry.getKey();
            long unlike = told.frames.stream().filter(f -> f.times > 0 && f.versions.containsKey(asset))
                    .map(f -> f.versions.get(asset)).distinct().count();
            mixed += entry.getValue().version() == -1 && unlike > 1 ? 1 : 0;
        }
        return mixed;
    }

    int ofFrame(int scene, int frame, int what) {
        Frame told = frameOf(scene, frame);
        index(within(what, 0, 5));
        int open = (int) told.notes.stream().filter(n -> !n.settled).count();
        int needed = needsIt(sceneOf(scene), told) ? 1 : 0;
        int bones = posesSeen(sceneOf(scene), told).size();
        int[] answers = {told.shown, Math.min(told.times, 1), needed, bones, open, told.times};
        return answers[what];
    }

    int kept(int scene, int frame, int asset) {
        Frame told = frameOf(scene, frame);
        assetOf(asset);
        return told.versions.getOrDefault(asset, -1);
    }

    int count(int what) {
        argument(within(what, 0, 6));
        int versions = assets.stream().mapToInt(a -> a.versions.size()).sum();
        int frames = scenes.stream().mapToInt(s -> s.frames.size()).sum();
        int needed = scenes.stream().mapToInt(this::needs).sum();
        int open = (int) notes.stream().filter(n -> !n.settled).count();
        int[] answers = {assets.size(), versions, scenes.size(), frames, needed, renderings, open};
        return answers[what];
    }
}
