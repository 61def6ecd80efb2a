/** An animation house: rigs in versions, scenes that show them, a farm that renders what changed, and notes. */
public final class PegbarBarn {
    public static final int NONE = -1;
    public static final int HOLD = 0, EVEN = 1, SLOW = 2;

    private static final int MAX_ASSETS = 8;
    private static final int MAX_BONES = 10;
    private static final int MAX_KEYS = 12;
    private static final int MAX_VERSIONS = 12;
    private static final int MAX_SCENES = 8;
    private static final int MAX_FRAMES = 40;
    private static final int MAX_NOTES = 40;
    private static final int CURVE_FRAMES = 100;
    private static final int MAX_VALUE = 999;

    private final Asset[] assets = new Asset[MAX_ASSETS];
    private final Scene[] scenes = new Scene[MAX_SCENES];
    private final Note[] notes = new Note[MAX_NOTES];
    private int assetCount;
    private int sceneCount;
    private int noteCount;
    private int renderings;

    public PegbarBarn() {
    }

    // ---- assets

    public int asset() throws IllegalStateException {
        if (assetCount >= MAX_ASSETS) {
            throw new IllegalStateException("there are 8 assets");
        }
        assets[assetCount] = new Asset();
        return assetCount++;
    }

    public int bone(int asset, int parent) throws IndexOutOfBoundsException, IllegalStateException {
        Asset told = assetAt(asset);
        if (told == null || (parent != NONE && !told.draft.hasBone(parent))) {
            throw new IndexOutOfBoundsException("no such asset or parent");
        }
        if (told.draft.size >= MAX_BONES) {
            throw new IllegalStateException("the draft has 10 bones");
        }
        return told.draft.addBone(parent);
    }

    public int key(int asset, int bone, int frame, int value, int goesOn)
            throws IndexOutOfBoundsException, IllegalArgumentException, IllegalStateException {
        Curve curve = draftCurve(asset, bone);
        if (curve == null) {
            throw new IndexOutOfBoundsException("no such asset or bone");
        }
        if (!isCurveFrame(frame) || value < -MAX_VALUE || value > MAX_VALUE || goesOn < HOLD || goesOn > SLOW) {
            throw new IllegalArgumentException("frame, value or goesOn is out of range");
        }
        if (!curve.hasRoomFor(frame)) {
            throw new IllegalStateException("the curve has 12 keys");
        }
        curve.put(frame, value, goesOn);
        return curve.size;
    }

    public boolean unkey(int asset, int bone, int frame) throws IndexOutOfBoundsException, IllegalArgumentException {
        Curve curve = draftCurve(asset, bone);
        if (curve == null) {
            throw new IndexOutOfBoundsException("no such asset or bone");
        }
        if (!isCurveFrame(frame)) {
            throw new IllegalArgumentException("frame is out of range");
        }
        return curve.take(frame);
    }

    public int publish(int asset) throws IndexOutOfBoundsException, IllegalStateException {
        Asset told = assetAt(asset);
        if (told == null) {
            throw new IndexOutOfBoundsException("no such asset");
        }
        if (told.versionCount >= MAX_VERSIONS || told.draft.size == 0) {
            throw new IllegalStateException("there are 12 versions, or the draft has no bones");
        }
        return told.addVersion();
    }

    public int pose(int asset, int version, int bone, int frame)
            throws IndexOutOfBoundsException, IllegalArgumentException {
        Rig rig = rigOf(asset, version);
        if (rig == null || !rig.hasBone(bone)) {
            throw new IndexOutOfBoundsException("no such asset, version or bone");
        }
        if (!isCurveFrame(frame)) {
            throw new IllegalArgumentException("frame is out of range");
        }
        return rig.poseAt(bone, frame);
    }

    public int poseAnew(int asset, int version, int bone, int frame)
            throws IndexOutOfBoundsException, IllegalArgumentException {
        Rig rig = rigOf(asset, version);
        if (rig == null || !rig.hasBone(bone)) {
            throw new IndexOutOfBoundsException("no such asset, version or bone");
        }
        if (!isCurveFrame(frame)) {
            throw new IllegalArgumentException("frame is out of range");
        }
        return rig.poseUpwards(bone, frame);
    }

    public int ofAsset(int asset, int what) throws IndexOutOfBoundsException {
        Asset told = assetAt(asset);
        if (told == null) {
            throw new IndexOutOfBoundsException("no such asset");
        }
        switch (what) {
            case 0:
                return told.draft.size;
            case 1:
                return told.versionCount;
            case 2:
                return scenesThatCast(asset);
            default:
                throw new IndexOutOfBoundsException("what is out of range");
        }
    }

    // ---- scenes, notes

    public int scene(int frames) throws IllegalArgumentException, IllegalStateException {
        if (frames < 1 || frames > MAX_FRAMES) {
            throw new IllegalArgumentException("frames is out of range");
        }
        if (sceneCount >= MAX_SCENES) {
            throw new IllegalStateException("there are 8 scenes");
        }
        scenes[sceneCount] = new Scene(frames);
        return sceneCount++;
    }

    public int cast(int scene, int asset, int version, int from, int to)
            throws IndexOutOfBoundsException, IllegalArgumentException {
        Scene told = sceneAt(scene);
        if (told == null || rigOf(asset, version) == null) {
            throw new IndexOutOfBoundsException("no such scene, asset or version");
        }
        if (!canBeShown(from) || to < from || !canBeShown(to)) {
            throw new IllegalArgumentException("from or to is out of range");
        }
        told.setCasting(asset, version, from, to);
        return told.castCount;
    }

    public int cut(int scene, int from, int many)
            throws IndexOutOfBoundsException, IllegalArgumentException, IllegalStateException {
        Scene told = sceneAt(scene);
        if (told == null || !told.hasFrame(from)) {
            throw new IndexOutOfBoundsException("no such scene or frame");
        }
        if (many < 1) {
            throw new IllegalArgumentException("many is below 1");
        }
        if (many > told.size - from || many >= told.size) {
            throw new IllegalStateException("there are not so many, or none would be left");
        }
        told.removeFrames(from, many);
        moveNotes(scene, from, many, told.size);
        return told.size;
    }

    public int note(int scene, int frame) throws IndexOutOfBoundsException, IllegalStateException {
        Scene told = sceneAt(scene);
        if (told == null || !told.hasFrame(frame)) {
            throw new IndexOutOfBoundsException("no such scene or frame");
        }
        if (noteCount >= MAX_NOTES) {
            throw new IllegalStateException("there are 40 notes");
        }
        notes[noteCount] = new Note(scene, frame);
        return noteCount++;
    }

    public int settle(int note) throws IndexOutOfBoundsException, IllegalStateException {
        Note told = noteAt(note);
        if (told == null) {
            throw new IndexOutOfBoundsException("no such note");
        }
        if (told.settled) {
            throw new IllegalStateException("the note was settled");
        }
        told.settled = true;
        return openNotesOfScene(told.scene);
    }

    public int ofNote(int note, int what) throws IndexOutOfBoundsException {
        Note told = noteAt(note);
        if (told == null) {
            throw new IndexOutOfBoundsException("no such note");
        }
        switch (what) {
            case 0:
                return told.scene;
            case 1:
                return told.frame;
            case 2:
                return told.settled ? 1 : 0;
            case 3:
                return told.carried;
            default:
                throw new IndexOutOfBoundsException("what is out of range");
        }
    }

    // ---- the farm

    public int render(int scene) throws IndexOutOfBoundsException {
        Scene told = sceneAt(scene);
        if (told == null) {
            throw new IndexOutOfBoundsException("no such scene");
        }
        int before = renderings;
        for (int i = 0; i < told.size; i++) {
            Frame shot = told.frameAt(i);
            if (shot != null) {
                if (isStale(told, shot)) {
                    countRendering(shot);
                }
                keepVersions(told, shot);
            }
        }
        return renderings - before;
    }

    public boolean renderOne(int scene, int frame) throws IndexOutOfBoundsException {
        Scene told = sceneAt(scene);
        Frame shot = told == null ? null : told.frameAt(frame);
        if (told == null || shot == null) {
            throw new IndexOutOfBoundsException("no such scene or frame");
        }
        boolean stale = isStale(told, shot);
        countRendering(shot);
        keepVersions(told, shot);
        return stale;
    }

    public int needs(int scene) throws IndexOutOfBoundsException {
        Scene told = sceneAt(scene);
        if (told == null) {
            throw new IndexOutOfBoundsException("no such scene");
        }
        return staleFrames(told);
    }

    public int mixes(int scene) throws IndexOutOfBoundsException {
        Scene told = sceneAt(scene);
        if (told == null) {
            throw new IndexOutOfBoundsException("no such scene");
        }
        int mixed = 0;
        for (int i = 0; i < assetCount; i++) {
            if (told.follows(i) && told.keepsUnlikeVersions(i)) {
                mixed++;
            }
        }
        return mixed;
    }

    public int ofFrame(int scene, int frame, int what) throws IndexOutOfBoundsException {
        Scene told = sceneAt(scene);
        Frame shot = told == null ? null : told.frameAt(frame);
        if (told == null || shot == null) {
            throw new IndexOutOfBoundsException("no such scene or frame");
        }
        switch (what) {
            case 0:
                return shot.shown;
            case 1:
                return shot.times > 0 ? 1 : 0;
            case 2:
                return isStale(told, shot) ? 1 : 0;
            case 3:
                return bonesSeen(told, shot);
            case 4:
                return openNotesOfFrame(scene, frame);
            case 5:
                return shot.times;
            default:
                throw new IndexOutOfBoundsException("what is out of range");
        }
    }

    public int kept(int scene, int frame, int asset) throws IndexOutOfBoundsException {
        Scene told = sceneAt(scene);
        Frame shot = told == null ? null : told.frameAt(frame);
        if (shot == null || assetAt(asset) == null) {
            throw new IndexOutOfBoundsException("no such scene, frame or asset");
        }
        return shot.versionOf(asset);
    }

    public int count(int what) throws IllegalArgumentException {
        switch (what) {
            case 0:
                return assetCount;
            case 1:
                return allVersions();
            case 2:
                return sceneCount;
            case 3:
                return allFrames();
            case 4:
                return allStaleFrames();
            case 5:
                return renderings;
            case 6:
                return allOpenNotes();
            default:
                throw new IllegalArgumentException("what is out of range");
        }
    }

    // ---- what was told, by its number; null if there is none

    private Asset assetAt(int number) {
        return number < 0 || number >= assetCount ? null : assets[number];
    }

    private Scene sceneAt(int number) {
        return number < 0 || number >= sceneCount ? null : scenes[number];
    }

    private Note noteAt(int number) {
        return number < 0 || number >= noteCount ? null : notes[number];
    }

    private Curve draftCurve(int asset, int bone) {
        Asset told = assetAt(asset);
        return told == null ? null : told.draft.curveOf(bone);
    }

    private Rig rigOf(int asset, int version) {
        Asset told = assetAt(asset);
        if (told == null) {
            return null;
        }
        return version == NONE ? told.draft : told.versionAt(version);
    }

    private static boolean isCurveFrame(int frame) {
        return frame >= 0 && frame < CURVE_FRAMES;
    }

    private static boolean canBeShown(int frame) {
        return frame >= 0 && frame < MAX_FRAMES;
    }

    // ---- what is seen, and what is kept of it

    private int seenVersion(Scene scene, Frame shot, int asset) {
        Asset told = assetAt(asset);
        Casting casting = scene.castingOf(asset);
        if (told == null || casting == null || !casting.covers(shot.shown)) {
            return NONE;
        }
        return casting.version == NONE ? told.versionCount - 1 : casting.version;
    }

    private Rig seenRig(Scene scene, Frame shot, int asset) {
        Asset told = assetAt(asset);
        return told == null ? null : told.versionAt(seenVersion(scene, shot, asset));
    }

    private int bonesSeen(Scene scene, Frame shot) {
        int bones = 0;
        for (int i = 0; i < assetCount; i++) {
            Rig rig = seenRig(scene, shot, i);
            if (rig != null) {
                bones += rig.size;
            }
        }
        return bones;
    }

    // Versions never change and a frame always shows the same, so that the kept
    // versions tell the kept bones and poses, too. They may stand for those of the
    // last rendering, because only versions that look alike are kept without one.
    private void keepVersions(Scene scene, Frame shot) {
        for (int i = 0; i < assetCount; i++) {
            shot.keepVersion(i, seenVersion(scene, shot, i));
        }
    }

    private void countRendering(Frame shot) {
        shot.times++;
        renderings++;
    }

    private boolean isStale(Scene scene, Frame shot) {
        if (shot.times == 0) {
            return true;
        }
        for (int i = 0; i < assetCount; i++) {
            Asset told = assetAt(i);
            int seen = seenVersion(scene, shot, i);
            if (told != null && !told.looksAlike(shot.versionOf(i), seen, shot.shown)) {
                return true;
            }
        }
        return false;
    }

    private int staleFrames(Scene scene) {
        int stale = 0;
        for (int i = 0; i < scene.size; i++) {
            Frame shot = scene.frameAt(i);
            if (shot != null && isStale(scene, shot)) {
                stale++;
            }
        }
        return stale;
    }

    // ---- notes

    private void moveNotes(int scene, int from, int many, int left) {
        for (int i = 0; i < noteCount; i++) {
            Note told = noteAt(i);
            if (told != null && told.scene == scene) {
                told.followCut(from, many, left);
            }
        }
    }

    private int openNotesOfScene(int scene) {
        int open = 0;
        for (int i = 0; i < noteCount; i++) {
            Note told = noteAt(i);
            if (told != null && !told.settled && told.scene == scene) {
                open++;
            }
        }
        return open;
    }

    private int openNotesOfFrame(int scene, int frame) {
        int open = 0;
        for (int i = 0; i < noteCount; i++) {
            Note told = noteAt(i);
            if (told != null && !told.settled && told.scene == scene && told.frame == frame) {
                open++;
            }
        }
        return open;
    }

    // ---- sums over everything

    private int scenesThatCast(int asset) {
        int casting = 0;
        for (int i = 0; i < sceneCount; i++) {
            Scene told = sceneAt(i);
            if (told != null && told.castingOf(asset) != null) {
                casting++;
            }
        }
        return casting;
    }

    private int allVersions() {
        int versions = 0;
        for (int i = 0; i < assetCount; i++) {
            Asset told = assetAt(i);
            if (told != null) {
                versions += told.versionCount;
            }
        }
        return versions;
    }

    private int allFrames() {
        int frames = 0;
        for (int i = 0; i < sceneCount; i++) {
            Scene told = sceneAt(i);
            if (told != null) {
                frames += told.size;
            }
        }
        return frames;
    }

    private int allStaleFrames() {
        int stale = 0;
        for (int i = 0; i < sceneCount; i++) {
            Scene told = sceneAt(i);
            if (told != null) {
                stale += staleFrames(told);
            }
        }
        return stale;
    }

    private int allOpenNotes() {
        int open = 0;
        for (int i = 0; i < noteCount; i++) {
            Note told = noteAt(i);
            if (told != null && !told.settled) {
                open++;
            }
        }
        return open;
    }

    /** The keys of one bone, in the order of their frames. */
    private static final class Curve {
        private final int[] frames = new int[MAX_KEYS];
        private final int[] values = new int[MAX_KEYS];
        private final int[] ways = new int[MAX_KEYS];
        private int size;

        int keysAhead(int frame) {
            int place = 0;
            while (place < size && frames[place] < frame) {
                place++;
            }
            return place;
        }

        boolean standsAt(int place, int frame) {
            return place < size && frames[place] == frame;
        }

        boolean hasRoomFor(int frame) {
            return size < MAX_KEYS || standsAt(keysAhead(frame), frame);
        }

        void put(int frame, int value, int way) {
            if (!hasRoomFor(frame)) {
                return;
            }
            int place = keysAhead(frame);
            if (!standsAt(place, frame)) {
                for (int i = size; i > place; i--) {
                    moveKey(i - 1, i);
                }
                size++;
            }
            frames[place] = frame;
            values[place] = value;
            ways[place] = way;
        }

        boolean take(int frame) {
            int place = keysAhead(frame);
            if (!standsAt(place, frame)) {
                return false;
            }
            size--;
            for (int i = place; i < size; i++) {
                moveKey(i + 1, i);
            }
            return true;
        }

        void moveKey(int from, int to) {
            frames[to] = frames[from];
            values[to] = values[from];
            ways[to] = ways[from];
        }

        int valueAt(int frame) {
            if (size == 0) {
                return 0;
            }
            int next = keysAhead(frame + 1);
            if (next == 0) {
                return values[0];
            }
            if (next >= size) {
                return values[size - 1];
            }
            return valueAhead(next, frame);
        }

        /** The value at a frame that lies ahead of a key, and not ahead of the one before that. */
        int valueAhead(int next, int frame) {
            int first = next - 1;
            int value = values[first];
            int between = frames[next] - frames[first];
            if (ways[first] == HOLD || between <= 0) {
                return value;
            }
            int difference = values[next] - value;
            int gone = frame - frames[first];
            if (ways[first] == EVEN) {
                return value + Math.floorDiv(difference * gone, between);
            }
            return value + Math.floorDiv(difference * gone * gone, between * between);
        }

        Curve copy() {
            Curve twin = new Curve();
            for (int i = 0; i < size; i++) {
                twin.frames[i] = frames[i];
                twin.values[i] = values[i];
                twin.ways[i] = ways[i];
            }
            twin.size = size;
            return twin;
        }
    }

    /** Bones with their curves: a draft, or a version. */
    private static final class Rig {
        private final int[] parents = new int[MAX_BONES];
        private final Curve[] curves = new Curve[MAX_BONES];
        private int size;
        // One pose a bone, for each frame that a scene can show: the farm asks for these
        // again and again. Null on a draft, whose poses may still change.
        private int[] poses;

        boolean hasBone(int bone) {
            return bone >= 0 && bone < size;
        }

        Curve curveOf(int bone) {
            return hasBone(bone) ? curves[bone] : null;
        }

        int addBone(int parent) {
            return append(parent, new Curve());
        }

        int append(int parent, Curve curve) {
            if (size >= MAX_BONES) {
                return NONE;
            }
            parents[size] = parent;
            curves[size] = curve;
            return size++;
        }

        int ownValue(int bone, int frame) {
            Curve curve = curveOf(bone);
            return curve == null ? 0 : curve.valueAt(frame);
        }

        int poseUpwards(int bone, int frame) {
            int sum = 0;
            int at = bone;
            // A parent is told ahead of its bone: so many steps always reach the top.
            for (int steps = 0; steps < MAX_BONES && hasBone(at); steps++) {
                sum += ownValue(at, frame);
                at = parents[at];
            }
            return sum;
        }

        int poseAt(int bone, int frame) {
            if (poses == null || !hasBone(bone) || !canBeShown(frame)) {
                return poseUpwards(bone, frame);
            }
            return poses[frame * size + bone];
        }

        boolean looksLike(Rig other, int frame) {
            int[] theirs = other.poses;
            if (poses == null || theirs == null || size != other.size || !canBeShown(frame)) {
                return false;
            }
            for (int i = frame * size; i < (frame + 1) * size; i++) {
                if (poses[i] != theirs[i]) {
                    return false;
                }
            }
            return true;
        }

        Rig versionOfIt() {
            Rig twin = new Rig();
            for (int i = 0; i < size; i++) {
                Curve curve = curveOf(i);
                if (curve != null) {
                    twin.append(parents[i], curve.copy());
                }
            }
            twin.fixPoses();
            return twin;
        }

        void fixPoses() {
            int[] fixed = new int[MAX_FRAMES * size];
            for (int frame = 0; frame < MAX_FRAMES; frame++) {
                int start = frame * size;
                for (int bone = 0; bone < size; bone++) {
                    int parent = parents[bone];
                    int above = hasBone(parent) ? fixed[start + parent] : 0;
                    fixed[start + bone] = above + ownValue(bone, frame);
                }
            }
            poses = fixed;
        }
    }

    private static final class Asset {
        private final Rig draft = new Rig();
        private final Rig[] versions = new Rig[MAX_VERSIONS];
        private int versionCount;

        int addVersion() {
            if (versionCount >= MAX_VERSIONS) {
                return NONE;
            }
            versions[versionCount] = draft.versionOfIt();
            return versionCount++;
        }

        Rig versionAt(int version) {
            return version < 0 || version >= versionCount ? null : versions[version];
        }

        /** Whether two versions, or NONE, show the same at a frame; none is like NONE, as each has a bone. */
        boolean looksAlike(int one, int other, int frame) {
            if (one == other) {
                return true;
            }
            Rig first = versionAt(one);
            Rig second = versionAt(other);
            return first != null && second != null && first.looksLike(second, frame);
        }
    }

    /** How an asset is cast in a scene. */
    private static final class Casting {
        private int version;
        private int from;
        private int to;

        boolean covers(int shown) {
            return shown >= from && shown <= to;
        }
    }

    private static final class Frame {
        private final int shown;
        private final int[] versions = new int[MAX_ASSETS];
        private int times;

        Frame(int shown) {
            this.shown = shown;
            for (int i = 0; i < MAX_ASSETS; i++) {
                versions[i] = NONE;
            }
        }

        int versionOf(int asset) {
            return asset < 0 || asset >= MAX_ASSETS ? NONE : versions[asset];
        }

        void keepVersion(int asset, int version) {
            if (asset >= 0 && asset < MAX_ASSETS) {
                versions[asset] = version;
            }
        }
    }

    private static final class Scene {
        private final Frame[] frames = new Frame[MAX_FRAMES];
        private final Casting[] castings = new Casting[MAX_ASSETS];
        private int size;
        private int castCount;

        Scene(int many) {
            for (int i = 0; i < many && i < MAX_FRAMES; i++) {
                frames[i] = new Frame(i);
                size++;
            }
        }

        boolean hasFrame(int frame) {
            return frame >= 0 && frame < size;
        }

        Frame frameAt(int frame) {
            return hasFrame(frame) ? frames[frame] : null;
        }

        Casting castingOf(int asset) {
            return asset < 0 || asset >= MAX_ASSETS ? null : castings[asset];
        }

        void setCasting(int asset, int version, int from, int to) {
            if (asset < 0 || asset >= MAX_ASSETS) {
                return;
            }
            Casting casting = castings[asset];
            if (casting == null) {
                casting = new Casting();
                castings[asset] = casting;
                castCount++;
            }
            casting.version = version;
            casting.from = from;
            casting.to = to;
        }

        void removeFrames(int from, int many) {
            if (!hasFrame(from) || many < 1 || many > size - from) {
                return;
            }
            for (int i = from; i + many < size; i++) {
                frames[i] = frames[i + many];
            }
            size -= many;
        }

        boolean follows(int asset) {
            Casting casting = castingOf(asset);
            return casting != null && casting.version == NONE;
        }

        boolean keepsUnlikeVersions(int asset) {
            int first = NONE;
            for (int i = 0; i < size; i++) {
                Frame shot = frameAt(i);
                int version = shot == null ? NONE : shot.versionOf(asset);
                if (first == NONE) {
                    first = version;
                } else if (version != NONE && version != first) {
                    return true;
                }
            }
            return false;
        }
    }

    private static final class Note {
        private final int scene;
        private int frame;
        private int carried;
        private boolean settled;

        Note(int scene, int frame) {
            this.scene = scene;
            this.frame = frame;
        }

        void followCut(int from, int many, int left) {
            if (frame >= from + many) {
                frame -= many;
            } else if (frame >= from) {
                frame = from < left ? from : left - 1;
                carried++;
            }
        }
    }
}
