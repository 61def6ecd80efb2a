/** Promises 1 to 9, sentence by sentence. */
final class AssetEdges {
    private static final String INDEX = Run.INDEX;
    private static final String ARGUMENT = Run.ARGUMENT;
    private static final String STATE = Run.STATE;

    private AssetEdges() {
    }

    static void run(Sentences doc) {
        doc.promise(1, "No assets, no scenes.", AssetEdges::aNewObject);
        doc.promise(2, "Tells an asset.", AssetEdges::asset);
        doc.promise(2, "Returns its number.", AssetEdges::numberOfAnAsset);
        doc.promise(2, "if there are 8", AssetEdges::eightAssets);
        bones(doc);
        keys(doc);
        versions(doc);
        poses(doc);
        doc.promise(9, "Tells of an asset.", AssetEdges::ofAsset);
        doc.promise(9, "0 how many bones the draft has", AssetEdges::bonesOfAnAsset);
        doc.promise(9, "1 how many versions there are", AssetEdges::versionsOfAnAsset);
        doc.promise(9, "2 in how many scenes it is cast", AssetEdges::scenesOfAnAsset);
        doc.promise(9, "Returns as told.", AssetEdges::ofAssetInOrder);
        doc.promise(9, "if there is no such asset", () -> {
            new Run().refusedIndex("ofAsset(#, 0)", 0);
            new Run().tellEach("asset()", 8).refusedIndex("ofAsset(#, 0)", 8);
        });
        doc.promise(9, "or what is out of range", () -> new Run("asset()").refusedIndex("ofAsset(0, #)", 3));
    }

    private static void bones(Sentences doc) {
        doc.promise(3, "Puts a bone into the draft of an asset.", AssetEdges::bone);
        doc.promise(3, "a bone of the draft, or NONE", AssetEdges::parents);
        doc.promise(3, "Returns its number.", AssetEdges::numberOfABone);
        doc.promise(3, "if there is no such asset", () -> {
            new Run().refusedIndex("bone(#, NONE)", 0);
            new Run("asset()").refusedIndex("bone(#, NONE)", 1);
            new Run().tellEach("asset()", 8).refusedIndex("bone(#, NONE)", 8);
        });
        doc.promise(3, "or parent is neither a bone nor NONE", AssetEdges::noParent);
        doc.promise(3, "if there are 10", AssetEdges::tenBones);
    }

    private static void keys(Sentences doc) {
        doc.promise(4, "Puts a key into the curve of a bone of the draft", AssetEdges::key);
        doc.promise(4, "in place of one at that frame", AssetEdges::keyInPlace);
        doc.promise(4, "`frame`: 0 to 99", AssetEdges::framesOfKeys);
        doc.promise(4, "`value`: -999 to 999", AssetEdges::valuesOfKeys);
        doc.promise(4, "`goesOn`: HOLD to SLOW", AssetEdges::waysOfKeys);
        doc.promise(4, "Returns how many keys the curve has.", AssetEdges::manyKeys);
        doc.promise(4, "if there is no such asset", () -> {
            new Run().refusedIndex("key(#, 0, 0, 0, HOLD)", 0);
            new Run("asset()", "bone(0, NONE)").refusedIndex("key(#, 0, 0, 0, HOLD)", 1);
            new Run().tellEach("asset()", 8).tellEach("bone(#, NONE)", 8).refusedIndex("key(#, 0, 0, 0, HOLD)", 8);
        });
        doc.promise(4, "or bone", () -> {
            new Run("asset()").refusedIndex("key(0, #, 0, 0, HOLD)", 0);
            new Run("asset()", "bone(0, NONE)").refusedIndex("key(0, #, 0, 0, HOLD)", 1);
            new Run("asset()").tellEach("bone(0, NONE)", 10).refusedIndex("key(0, #, 0, 0, HOLD)", 10);
        });
        doc.promise(4, "if frame, value or goesOn is out of range", AssetEdges::keyOutOfRange);
        doc.promise(4, "if it has 12, none of which is at that frame", AssetEdges::twelveKeys);
        doc.promise(5, "Takes a key out of the curve of a bone of the draft.", AssetEdges::unkey);
        doc.promise(5, "`frame`: 0 to 99", AssetEdges::unkeyFirstAndLast);
        doc.promise(5, "Returns whether there was one.", AssetEdges::unkeyNone);
        doc.promise(5, "if there is no such asset", () -> {
            new Run().refusedIndex("unkey(#, 0, 0)", 0);
            new Run("asset()", "bone(0, NONE)", "key(0, 0, 0, 5, HOLD)").refusedIndex("unkey(#, 0, 0)", 1);
            new Run().tellEach("asset()", 8).refusedIndex("unkey(#, 0, 0)", 8);
        });
        doc.promise(5, "or bone", () -> {
            new Run("asset()").refusedIndex("unkey(0, #, 0)", 0);
            new Run("asset()", "bone(0, NONE)", "key(0, 0, 0, 5, HOLD)").refusedIndex("unkey(0, #, 0)", 1);
            new Run("asset()").tellEach("bone(0, NONE)", 10).refusedIndex("unkey(0, #, 0)", 10);
        });
        doc.promise(5, "if frame is out of range", () -> {
            Run x = new Run("asset()", "bone(0, NONE)", "key(0, 0, 0, 5, HOLD)", "key(0, 0, 99, 7, HOLD)");
            x.refused(ARGUMENT, "unkey(0, 0, -1)", "unkey(0, 0, 100)", "unkey(0, 0, LOWEST)", "unkey(0, 0, HIGHEST)");
            new Run("asset()", "bone(0, NONE)").refused(ARGUMENT, "unkey(0, 0, -1)", "unkey(0, 0, 100)");
        });
    }

    private static void versions(Sentences doc) {
        doc.promise(6, "Publishes an asset.", AssetEdges::publish);
        doc.promise(6, "Returns the number of the version.", AssetEdges::numberOfAVersion);
        doc.promise(6, "if there is no such asset", () -> {
            new Run().refusedIndex("publish(#)", 0);
            new Run("asset()", "bone(0, NONE)").refusedIndex("publish(#)", 1);
            new Run().tellEach("asset()", 8).tellEach("bone(#, NONE)", 8).refusedIndex("publish(#)", 8);
        });
        doc.promise(6, "if there are 12", AssetEdges::twelveVersions);
        doc.promise(6, "or the draft has no bones", () -> {
            Run x = new Run("asset()", "asset()", "bone(1, NONE)", "publish(1)");
            x.refused(STATE, "publish(0)").tell("bone(0, NONE)").due(0, "publish(0)");
        });
    }

    private static void poses(Sentences doc) {
        doc.promise(7, "Returns the pose of a bone.", () -> posesOfBones("pose"));
        doc.promise(7, "its number, or NONE for the draft", () -> posesOfVersions("pose"));
        doc.promise(7, "`frame`: 0 to 99", () -> posesAtTheEnds("pose"));
        doc.promise(7, "Returns the pose.", () -> greatPoses("pose"));
        doc.promise(7, "if there is no such asset", () -> noSuchAsset("pose"));
        doc.promise(7, "version or bone of that", () -> noSuchVersionOrBone("pose"));
        doc.promise(7, "if frame is out of range", () -> noSuchFrame("pose"));
        doc.promise(8, "Returns the same", () -> posesOfBones("poseAnew"));
        doc.promise(8, "found by going up through all its parents", AssetEdges::goingUp);
        doc.promise(8, "its number, or NONE for the draft", () -> posesOfVersions("poseAnew"));
        doc.promise(8, "`frame`: 0 to 99", () -> posesAtTheEnds("poseAnew"));
        doc.promise(8, "Returns the pose.", () -> greatPoses("poseAnew"));
        doc.promise(8, "if there is no such asset", () -> noSuchAsset("poseAnew"));
        doc.promise(8, "version or bone of that", () -> noSuchVersionOrBone("poseAnew"));
        doc.promise(8, "if frame is out of range", () -> noSuchFrame("poseAnew"));
    }

    private static void aNewObject() {
        new Run().dueEach("count(#)", 0, 0, 0, 0, 0, 0, 0);
        new Run().refused(INDEX, "ofAsset(0, 0)", "bone(0, NONE)", "publish(0)", "pose(0, NONE, 0, 0)");
        new Run().refused(INDEX, "needs(0)", "render(0)", "mixes(0)", "cut(0, 0, 1)", "note(0, 0)");
        new Run().refused(INDEX, "cast(0, 0, NONE, 0, 0)", "renderOne(0, 0)", "ofFrame(0, 0, 0)", "kept(0, 0, 0)");
        new Run().refused(INDEX, "settle(0)", "ofNote(0, 0)");
        new Run("asset()", "scene(3)", "note(0, 0)", "render(0)").due(3, "count(5)");
        new Run().dueEach("count(#)", 0, 0, 0, 0, 0, 0, 0);
    }

    private static void asset() {
        new Run("asset()").due(1, "count(0)").dueEach("ofAsset(0, #)", 0, 0, 0);
        Run x = new Run("asset()", "bone(0, NONE)", "publish(0)", "scene(1)", "cast(0, 0, 0, 0, 0)", "asset()");
        x.dueEach("ofAsset(1, #)", 0, 0, 0).dueEach("ofAsset(0, #)", 1, 1, 1);
    }

    private static void numberOfAnAsset() {
        new Run().dueEach("asset()", 0, 1, 2, 3, 4, 5, 6, 7);
    }

    private static void eightAssets() {
        Run x = new Run().tellEach("asset()", 7).due(7, "asset()");
        x.refused(STATE, "asset()", "asset()").due(8, "count(0)").due(0, "bone(7, NONE)");
    }

    private static void bone() {
        Run x = new Run("asset()", "asset()", "bone(0, NONE)").due(1, "ofAsset(0, 0)").due(0, "ofAsset(1, 0)");
        x.tell("publish(0)", "bone(0, 0)").due(2, "ofAsset(0, 0)");
        x.pose(0, "0, NONE, 1, 0").pose(INDEX, "0, 0, 1, 0");
    }

    private static void parents() {
        Run x = new Run("asset()").due(0, "bone(0, NONE)").due(1, "bone(0, 0)").due(2, "bone(0, 1)");
        x.due(3, "bone(0, NONE)").due(4, "bone(0, 3)").due(5, "bone(0, 0)");
        x.tell("key(0, 0, 0, 1, HOLD)", "key(0, 1, 0, 2, HOLD)", "key(0, 2, 0, 4, HOLD)");
        x.tell("key(0, 3, 0, 8, HOLD)", "key(0, 4, 0, 16, HOLD)", "key(0, 5, 0, 32, HOLD)");
        x.dueEach("pose(0, NONE, #, 0)", 1, 3, 7, 8, 24, 33);
    }

    private static void numberOfABone() {
        Run x = new Run("asset()", "asset()").dueEach("bone(0, NONE)", 0, 1, 2, 3, 4, 5, 6, 7, 8);
        x.due(0, "bone(1, NONE)").due(9, "bone(0, 8)").due(1, "bone(1, 0)");
    }

    private static void noParent() {
        Run x = new Run("asset()", "asset()", "bone(1, NONE)", "bone(1, NONE)");
        x.refused(INDEX, "bone(0, 0)", "bone(0, 1)", "bone(0, -2)", "bone(0, LOWEST)", "bone(0, HIGHEST)");
        x.tell("bone(0, NONE)", "publish(0)");
        x.refused(INDEX, "bone(0, 1)", "bone(0, -2)", "bone(0, 9)", "bone(0, 10)");
        x.due(1, "bone(0, 0)").due(2, "bone(0, 1)");
    }

    private static void tenBones() {
        Run x = new Run("asset()", "asset()").tellEach("bone(0, NONE)", 9).due(9, "bone(0, 8)");
        x.refused(STATE, "bone(0, NONE)", "bone(0, 0)", "bone(0, 9)").due(10, "ofAsset(0, 0)");
        x.tell("publish(0)").refused(STATE, "bone(0, NONE)").due(0, "bone(1, NONE)");
    }

    private static void key() {
        Run x = new Run("asset()", "asset()", "bone(0, NONE)", "bone(0, NONE)", "bone(1, NONE)", "publish(0)");
        x.due(1, "key(0, 1, 5, 7, HOLD)");
        x.pose(7, "0, NONE, 1, 5").pose(0, "0, NONE, 0, 5").pose(0, "1, NONE, 0, 5").pose(0, "0, 0, 1, 5");
        Run y = new Run("asset()", "bone(0, NONE)", "key(0, 0, 50, 5, HOLD)");
        y.due(2, "key(0, 0, 20, 2, HOLD)").due(3, "key(0, 0, 80, 8, HOLD)").due(4, "key(0, 0, 60, 6, HOLD)");
        y.pose(2, "0, NONE, 0, 49").pose(5, "0, NONE, 0, 50").pose(5, "0, NONE, 0, 59");
        y.pose(6, "0, NONE, 0, 60").pose(6, "0, NONE, 0, 79").pose(8, "0, NONE, 0, 80");
    }

    private static void keyInPlace() {
        Run x = new Run("asset()", "bone(0, NONE)", "key(0, 0, 0, 0, EVEN)", "key(0, 0, 10, 20, EVEN)");
        x.pose(10, "0, NONE, 0, 5");
        x.due(2, "key(0, 0, 0, 10, EVEN)").pose(15, "0, NONE, 0, 5").pose(10, "0, NONE, 0, 0");
        x.due(2, "key(0, 0, 0, 10, HOLD)").pose(10, "0, NONE, 0, 5");
        x.due(2, "key(0, 0, 10, -9, HOLD)").pose(10, "0, NONE, 0, 9").pose(-9, "0, NONE, 0, 10");
        x.due(true, "unkey(0, 0, 0)").due(false, "unkey(0, 0, 0)").pose(-9, "0, NONE, 0, 0");
        Run y = new Run("asset()", "bone(0, NONE)", "key(0, 0, 3, 1, HOLD)", "key(0, 0, 5, 2, HOLD)");
        y.due(2, "key(0, 0, 3, 1, HOLD)").due(2, "key(0, 0, 5, 2, HOLD)").due(3, "key(0, 0, 4, 9, HOLD)");
        y.pose(1, "0, NONE, 0, 3").pose(9, "0, NONE, 0, 4").pose(2, "0, NONE, 0, 5");
    }

    private static void framesOfKeys() {
        Run x = new Run("asset()", "bone(0, NONE)");
        x.due(1, "key(0, 0, 99, 9, HOLD)").due(2, "key(0, 0, 0, 4, HOLD)");
        x.pose(4, "0, NONE, 0, 0").pose(4, "0, NONE, 0, 98").pose(9, "0, NONE, 0, 99");
        Run y = new Run("asset()", "bone(0, NONE)").due(1, "key(0, 0, 1, 3, HOLD)").due(2, "key(0, 0, 98, 5, HOLD)");
        y.pose(3, "0, NONE, 0, 97").pose(5, "0, NONE, 0, 98");
    }

    private static void valuesOfKeys() {
        Run x = new Run("asset()", "bone(0, NONE)");
        x.due(1, "key(0, 0, 0, -999, HOLD)").due(2, "key(0, 0, 5, 999, HOLD)").due(3, "key(0, 0, 9, 0, HOLD)");
        x.pose(-999, "0, NONE, 0, 0").pose(999, "0, NONE, 0, 5").pose(0, "0, NONE, 0, 9");
        x.due(4, "key(0, 0, 10, -998, HOLD)").due(5, "key(0, 0, 11, 998, HOLD)");
    }

    private static void waysOfKeys() {
        for (int way = 0; way < 3; way++) {
            Run x = new Run("asset()", "bone(0, NONE)").due(1, "key(0, 0, 0, 0, " + way + ")");
            x.due(2, "key(0, 0, 10, 100, HOLD)");
            x.pose(way == 0 ? 0 : way == 1 ? 50 : 25, "0, NONE, 0, 5");
        }
    }

    private static void manyKeys() {
        Run x = new Run("asset()", "bone(0, NONE)", "bone(0, NONE)");
        x.dueEach("key(0, 0, #, 0, HOLD)", 1, 2, 3, 4, 5, 6, 7, 8, 9, 10, 11, 12);
        x.due(12, "key(0, 0, 11, 1, HOLD)").due(12, "key(0, 0, 0, 1, HOLD)").due(1, "key(0, 1, 0, 0, HOLD)");
        x.tell("unkey(0, 0, 5)", "unkey(0, 0, 5)", "unkey(0, 0, 11)").due(11, "key(0, 0, 99, 0, HOLD)");
        x.tell("publish(0)").due(11, "key(0, 0, 99, 7, HOLD)").due(2, "key(0, 1, 50, 0, HOLD)");
    }

    private static void keyOutOfRange() {
        Run x = new Run("asset()", "bone(0, NONE)", "key(0, 0, 0, 5, EVEN)", "key(0, 0, 99, 7, EVEN)");
        x.refused(ARGUMENT, "key(0, 0, -1, 0, HOLD)", "key(0, 0, 100, 0, HOLD)");
        x.refused(ARGUMENT, "key(0, 0, LOWEST, 0, HOLD)", "key(0, 0, HIGHEST, 0, HOLD)");
        x.refused(ARGUMENT, "key(0, 0, 0, -1000, HOLD)", "key(0, 0, 0, 1000, HOLD)");
        x.refused(ARGUMENT, "key(0, 0, 0, LOWEST, HOLD)", "key(0, 0, 0, HIGHEST, HOLD)");
        x.refused(ARGUMENT, "key(0, 0, 0, 0, -1)", "key(0, 0, 0, 0, 3)");
        x.refused(ARGUMENT, "key(0, 0, 0, 0, LOWEST)", "key(0, 0, 0, 0, HIGHEST)");
        x.due(3, "key(0, 0, 50, 0, HOLD)");
    }

    private static void twelveKeys() {
        Run x = new Run("asset()", "bone(0, NONE)", "bone(0, NONE)");
        for (int i = 1; i <= 12; i++) {
            x.due(i, "key(0, 0, " + 8 * i + ", " + i + ", HOLD)");
        }
        x.refused(STATE, "key(0, 0, 0, 0, HOLD)", "key(0, 0, 7, 0, HOLD)", "key(0, 0, 9, 0, HOLD)");
        x.refused(STATE, "key(0, 0, 95, 0, HOLD)", "key(0, 0, 97, 0, HOLD)", "key(0, 0, 99, 0, HOLD)");
        x.due(12, "key(0, 0, 8, -1, HOLD)").due(12, "key(0, 0, 48, -6, HOLD)").due(12, "key(0, 0, 96, -12, HOLD)");
        x.pose(-1, "0, NONE, 0, 15").pose(-6, "0, NONE, 0, 48").pose(-12, "0, NONE, 0, 99");
        x.due(1, "key(0, 1, 0, 0, HOLD)");
        x.tell("unkey(0, 0, 48)").due(12, "key(0, 0, 0, 5, HOLD)").refused(STATE, "key(0, 0, 48, 0, HOLD)");
    }

    private static void unkey() {
        Run x = new Run("asset()", "bone(0, NONE)", "bone(0, NONE)", "key(0, 0, 10, 0, EVEN)");
        x.tell("key(0, 0, 20, 40, SLOW)", "key(0, 0, 30, 80, HOLD)", "key(0, 1, 20, 5, HOLD)", "publish(0)");
        x.due(true, "unkey(0, 0, 20)").pose(40, "0, NONE, 0, 20").pose(20, "0, NONE, 0, 15");
        x.pose(60, "0, NONE, 0, 25").pose(50, "0, 0, 0, 25").pose(5, "0, NONE, 1, 20");
        x.due(true, "unkey(0, 0, 10)").pose(80, "0, NONE, 0, 0").pose(80, "0, NONE, 0, 99");
        x.due(true, "unkey(0, 0, 30)").pose(0, "0, NONE, 0, 30").pose(40, "0, 0, 0, 20");
        Run y = new Run("asset()", "bone(0, NONE)", "key(0, 0, 1, 1, HOLD)", "key(0, 0, 2, 2, EVEN)");
        y.tell("key(0, 0, 6, 6, HOLD)").due(true, "unkey(0, 0, 1)").pose(2, "0, NONE, 0, 0").pose(4, "0, NONE, 0, 4");
    }

    private static void unkeyFirstAndLast() {
        Run x = new Run("asset()", "bone(0, NONE)").tellEach("key(0, 0, #, #, HOLD)", 11)
                .tell("key(0, 0, 99, 99, HOLD)");
        x.due(true, "unkey(0, 0, 99)").due(true, "unkey(0, 0, 0)");
        x.pose(10, "0, NONE, 0, 99").pose(1, "0, NONE, 0, 0");
        x.due(11, "key(0, 0, 99, 7, HOLD)").due(12, "key(0, 0, 0, 3, HOLD)");
    }

    private static void unkeyNone() {
        Run x = new Run("asset()", "bone(0, NONE)").due(false, "unkey(0, 0, 0)").due(false, "unkey(0, 0, 99)");
        x.tell("bone(0, NONE)", "key(0, 1, 4, 4, HOLD)").due(false, "unkey(0, 0, 4)");
        x.due(false, "unkey(0, 1, 3)").due(false, "unkey(0, 1, 5)").due(false, "unkey(0, 1, 0)");
        x.due(false, "unkey(0, 1, 99)").due(true, "unkey(0, 1, 4)").due(false, "unkey(0, 1, 4)");
        x.due(1, "key(0, 1, 4, 4, HOLD)").due(true, "unkey(0, 1, 4)");
        Run full = new Run("asset()", "bone(0, NONE)").tellEach("key(0, 0, #, 0, HOLD)", 12);
        full.due(false, "unkey(0, 0, 12)").due(true, "unkey(0, 0, 11)").due(false, "unkey(0, 0, 11)");
    }

    private static void publish() {
        Run x = new Run("asset()", "asset()", "bone(0, NONE)", "key(0, 0, 0, 3, HOLD)", "publish(0)");
        x.dueEach("ofAsset(0, #)", 1, 1, 0).dueEach("ofAsset(1, #)", 0, 0, 0).due(1, "count(1)");
        x.pose(3, "0, 0, 0, 50").pose(INDEX, "0, 1, 0, 50");
        Run full = new Run("asset()", "bone(0, NONE)").tellEach("bone(0, #)", 9);
        for (int bone = 0; bone < 10; bone++) {
            full.tellEach("key(0, " + bone + ", #, #, HOLD)", 12);
        }
        full.due(0, "publish(0)").pose(110, "0, 0, 9, 11").pose(110, "0, 0, 9, 99").pose(11, "0, 0, 0, 40");
    }

    private static void numberOfAVersion() {
        Run x = new Run("asset()", "asset()", "bone(0, NONE)", "bone(1, NONE)");
        x.dueEach("publish(0)", 0, 1, 2, 3, 4, 5, 6, 7, 8, 9, 10);
        x.due(0, "publish(1)").due(11, "publish(0)").due(1, "publish(1)");
    }

    private static void twelveVersions() {
        Run x = new Run("asset()", "asset()", "bone(0, NONE)", "bone(1, NONE)").tellEach("publish(0)", 11);
        x.due(11, "publish(0)").refused(STATE, "publish(0)", "publish(0)").due(12, "ofAsset(0, 1)");
        x.tell("key(0, 0, 0, 9, HOLD)").refused(STATE, "publish(0)").due(0, "publish(1)");
        x.pose(0, "0, 11, 0, 0").pose(9, "0, NONE, 0, 0").pose(INDEX, "0, 12, 0, 0");
    }

    private static void posesOfBones(String pose) {
        Run x = new Run("asset()", "bone(0, NONE)", "bone(0, NONE)", "bone(0, 1)");
        x.tell("key(0, 0, 0, 1, HOLD)", "key(0, 1, 0, 2, EVEN)", "key(0, 1, 10, 12, HOLD)", "key(0, 2, 5, 100, HOLD)");
        x.tell("publish(0)");
        for (int version = -1; version < 1; version++) {
            x.dueEach(pose + "(0, " + version + ", #, 0)", 1, 2, 102);
            x.dueEach(pose + "(0, " + version + ", #, 3)", 1, 5, 105);
            x.dueEach(pose + "(0, " + version + ", #, 99)", 1, 12, 112);
        }
    }

    private static void posesOfVersions(String pose) {
        Run x = new Run("asset()", "bone(0, NONE)").tell("asset()", "bone(1, NONE)", "key(1, 0, 0, -7, HOLD)");
        x.tell("publish(1)");
        for (int i = 0; i < 12; i++) {
            x.tell("key(0, 0, 0, " + 10 * i + ", HOLD)", "publish(0)");
        }
        x.tell("key(0, 0, 0, 5, HOLD)").due(5, pose + "(0, NONE, 0, 0)").due(5, pose + "(0, -1, 0, 0)");
        x.dueEach(pose + "(0, #, 0, 0)", 0, 10, 20, 30, 40, 50, 60, 70, 80, 90, 100, 110);
        x.due(-7, pose + "(1, 0, 0, 0)").due(-7, pose + "(1, NONE, 0, 99)");
    }

    private static void posesAtTheEnds(String pose) {
        Run x = new Run("asset()", "bone(0, NONE)", "key(0, 0, 0, 0, EVEN)", "key(0, 0, 99, 198, EVEN)", "publish(0)");
        for (int version = -1; version < 1; version++) {
            for (int frame : new int[] {0, 1, 38, 39, 40, 41, 98, 99}) {
                x.due(2 * frame, pose + "(0, " + version + ", 0, " + frame + ")");
            }
        }
    }

    private static void greatPoses(String pose) {
        Run x = new Run("asset()", "bone(0, NONE)").tellEach("bone(0, #)", 9);
        x.tellEach("key(0, #, 0, 999, HOLD)", 10).tellEach("key(0, #, 20, -999, HOLD)", 10).tell("publish(0)");
        x.due(9990, pose + "(0, 0, 9, 19)").due(-9990, pose + "(0, 0, 9, 20)").due(-9990, pose + "(0, NONE, 9, 99)");
        x.due(999, pose + "(0, 0, 0, 0)").due(1998, pose + "(0, 0, 1, 0)");
    }

    private static void goingUp() {
        Run x = new Run("asset()", "bone(0, NONE)");
        for (int i = 1; i < 10; i++) {
            x.tell("bone(0, " + (i - 1) / 2 + ")");
        }
        x.tellEach("key(0, #, 0, 1, HOLD)", 10).tell("key(0, 4, 0, 100, HOLD)", "publish(0)");
        x.dueEach("poseAnew(0, NONE, #, 0)", 1, 2, 2, 3, 102, 3, 3, 4, 4, 103);
        x.dueEach("poseAnew(0, 0, #, 0)", 1, 2, 2, 3, 102, 3, 3, 4, 4, 103);
        x.tell("key(0, 0, 0, 900, HOLD)");
        x.dueEach("poseAnew(0, NONE, #, 0)", 900, 901, 901, 902, 1001, 902, 902, 903, 903, 1002);
        x.dueEach("poseAnew(0, 0, #, 0)", 1, 2, 2, 3, 102, 3, 3, 4, 4, 103);
    }

    private static void noSuchAsset(String pose) {
        new Run().refusedIndex(pose + "(#, NONE, 0, 0)", 0);
        Run x = new Run("asset()", "bone(0, NONE)", "publish(0)");
        x.refusedIndex(pose + "(#, NONE, 0, 0)", 1).refusedIndex(pose + "(#, 0, 0, 0)", 1);
        new Run().tellEach("asset()", 8).tellEach("bone(#, NONE)", 8).refusedIndex(pose + "(#, NONE, 0, 0)", 8);
    }

    private static void noSuchVersionOrBone(String pose) {
        Run x = new Run("asset()", "asset()", "bone(0, NONE)", "bone(1, NONE)", "publish(1)");
        x.refused(INDEX, pose + "(0, 0, 0, 0)", pose + "(0, -2, 0, 0)", pose + "(1, 1, 0, 0)", pose + "(1, -2, 0, 0)");
        x.refused(INDEX, pose + "(1, LOWEST, 0, 0)", pose + "(1, HIGHEST, 0, 0)");
        x.tell("bone(1, 0)").due(0, pose + "(1, NONE, 1, 0)");
        x.refusedIndex(pose + "(1, 0, #, 0)", 1).refusedIndex(pose + "(1, NONE, #, 0)", 2);
        x.tell("asset()").refusedIndex(pose + "(2, NONE, #, 0)", 0);
        Run full = new Run("asset()").tellEach("bone(0, NONE)", 10).tellEach("publish(0)", 12);
        full.due(0, pose + "(0, 11, 9, 99)").refused(INDEX, pose + "(0, 12, 9, 99)")
                .refusedIndex(pose + "(0, 11, #, 0)", 10);
    }

    private static void noSuchFrame(String pose) {
        Run x = new Run("asset()", "bone(0, NONE)", "key(0, 0, 0, 5, HOLD)", "publish(0)");
        for (String version : new String[] {"NONE", "0"}) {
            String call = pose + "(0, " + version + ", 0, ";
            x.refused(ARGUMENT, call + "-1)", call + "100)", call + "LOWEST)", call + "HIGHEST)");
        }
        Run empty = new Run("asset()", "bone(0, NONE)");
        empty.refused(ARGUMENT, pose + "(0, NONE, 0, -1)", pose + "(0, NONE, 0, 100)");
    }

    private static void ofAsset() {
        Run x = new Run("asset()", "asset()", "bone(1, NONE)", "bone(1, 0)", "bone(1, 1)", "publish(1)", "publish(1)");
        x.tell("scene(2)", "cast(0, 1, 0, 0, 0)").dueEach("ofAsset(1, #)", 3, 2, 1).dueEach("ofAsset(0, #)", 0, 0, 0);
    }

    private static void bonesOfAnAsset() {
        Run x = new Run("asset()").due(0, "ofAsset(0, 0)");
        for (int i = 1; i <= 10; i++) {
            x.tell("bone(0, NONE)").due(i, "ofAsset(0, 0)");
        }
        x.tell("publish(0)").due(10, "ofAsset(0, 0)");
    }

    private static void versionsOfAnAsset() {
        Run x = new Run("asset()", "bone(0, NONE)").due(0, "ofAsset(0, 1)");
        for (int i = 1; i <= 12; i++) {
            x.tell("publish(0)").due(i, "ofAsset(0, 1)");
        }
    }

    private static void scenesOfAnAsset() {
        Run x = new Run("asset()", "asset()").tellEach("scene(1)", 8).due(0, "ofAsset(0, 2)");
        for (int i = 0; i < 8; i++) {
            x.tell("cast(" + i + ", 0, NONE, 0, 0)").due(i + 1, "ofAsset(0, 2)");
            x.tell("cast(" + i + ", 0, NONE, 39, 39)").due(i + 1, "ofAsset(0, 2)");
        }
        x.due(0, "ofAsset(1, 2)");
    }

    private static void ofAssetInOrder() {
        Run x = new Run().tellEach("asset()", 8).tell("bone(7, NONE)", "bone(7, NONE)", "publish(7)", "scene(1)");
        x.dueEach("ofAsset(7, #)", 2, 1, 0).tell("cast(0, 7, NONE, 0, 0)").dueEach("ofAsset(7, #)", 2, 1, 1);
    }
}
