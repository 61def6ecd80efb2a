/** Promises 16 to 22, sentence by sentence. */
final class FarmEdges {
    private static final String INDEX = Run.INDEX;
    private static final String ARGUMENT = Run.ARGUMENT;

    private FarmEdges() {
    }

    static void run(Sentences doc) {
        renders(doc);
        doc.promise(18, "Returns how many frames of a scene need to be rendered.", FarmEdges::needs);
        doc.promise(18, "Returns how many.", FarmEdges::needsAllOrNone);
        doc.promise(18, "if there is no such scene", () -> noSuchScene("needs(#)"));
        doc.promise(19, "Returns how many assets a scene mixes.", FarmEdges::mixes);
        doc.promise(19, "Returns how many.", FarmEdges::mixesAllOrNone);
        doc.promise(19, "if there is no such scene", () -> noSuchScene("mixes(#)"));
        frames(doc);
        doc.promise(21, "Returns the version of an asset that is kept at a frame.", FarmEdges::kept);
        doc.promise(21, "Returns the version;", FarmEdges::keptVersions);
        doc.promise(21, "NONE if it was not rendered", FarmEdges::keptUnrendered);
        doc.promise(21, "or the asset was not seen at it", FarmEdges::keptUnseen);
        doc.promise(21, "if there is no such scene", () -> noSuchScene("kept(#, 0, 0)"));
        doc.promise(21, "frame or asset", () -> {
            noSuchFrame("kept(0, #, 0)");
            new Run("scene(3)").refusedIndex("kept(0, 0, #)", 0);
            following(3).tell("render(0)").refusedIndex("kept(0, 0, #)", 1);
            new Run("scene(3)").tellEach("asset()", 8).refusedIndex("kept(0, 2, #)", 8);
        });
        counts(doc);
    }

    private static void renders(Sentences doc) {
        doc.promise(16, "Renders a scene.", FarmEdges::render);
        doc.promise(16, "Returns how many frames were rendered.", FarmEdges::manyRendered);
        doc.promise(16, "if there is no such scene", () -> noSuchScene("render(#)"));
        doc.promise(17, "Renders one frame", FarmEdges::renderOne);
        doc.promise(17, "whether it needs it or not", FarmEdges::renderOneUnneeded);
        doc.promise(17, "Returns whether it needed it.", FarmEdges::neededIt);
        doc.promise(17, "if there is no such scene", () -> noSuchScene("renderOne(#, 0)"));
        doc.promise(17, "or frame", () -> noSuchFrame("renderOne(0, #)"));
    }

    private static void frames(Sentences doc) {
        doc.promise(20, "Tells of a frame.", FarmEdges::ofFrame);
        doc.promise(20, "0 the frame that it shows", FarmEdges::shown);
        doc.promise(20, "1 whether it was rendered", FarmEdges::wasRendered);
        doc.promise(20, "2 whether it needs to be, 1 or 0", FarmEdges::needsToBe);
        doc.promise(20, "3 how many bones are seen at it", FarmEdges::bonesSeen);
        doc.promise(20, "4 how many notes are on it that were not settled", FarmEdges::openNotes);
        doc.promise(20, "5 how often it was rendered", FarmEdges::howOften);
        doc.promise(20, "Returns as told.", FarmEdges::ofFrameInOrder);
        doc.promise(20, "if there is no such scene", () -> noSuchScene("ofFrame(#, 0, 0)"));
        doc.promise(20, "or frame", () -> noSuchFrame("ofFrame(0, #, 0)"));
        doc.promise(20, "or what is out of range", () -> {
            new Run("scene(3)").refusedIndex("ofFrame(0, 0, #)", 6);
            following(3).tell("render(0)").refusedIndex("ofFrame(0, 2, #)", 6);
        });
    }

    private static void counts(Sentences doc) {
        doc.promise(22, "Counts something.", FarmEdges::count);
        doc.promise(22, "0 assets", () -> countsUp(0, 8, "asset()"));
        doc.promise(22, "1 versions", FarmEdges::countVersions);
        doc.promise(22, "2 scenes", () -> countsUp(2, 8, "scene(1)"));
        doc.promise(22, "3 frames of all scenes", FarmEdges::countFrames);
        doc.promise(22, "4 those that need to be rendered", FarmEdges::countNeeds);
        doc.promise(22, "5 renderings of frames so far", FarmEdges::countRenderings);
        doc.promise(22, "also of those cut out", FarmEdges::countRenderingsCutOut);
        doc.promise(22, "6 notes that were not settled", FarmEdges::countOpenNotes);
        doc.promise(22, "Returns how many.", FarmEdges::countsInOrder);
        doc.promise(22, "if what is out of range", () -> {
            new Run().refused(ARGUMENT, "count(-1)", "count(7)", "count(LOWEST)", "count(HIGHEST)");
            following(3).tell("render(0)").refused(ARGUMENT, "count(-1)", "count(7)", "count(8)");
        });
    }

    /** One asset with one bone and one version, followed at all frames of one scene; its poses are 0. */
    private static Run following(int frames) {
        return new Run("asset()", "bone(0, NONE)", "publish(0)", "scene(" + frames + ")", "cast(0, 0, NONE, 0, 39)");
    }

    private static void noSuchScene(String call) {
        new Run("asset()").refusedIndex(call, 0);
        following(2).refusedIndex(call, 1);
        following(2).tell("render(0)").refusedIndex(call, 1);
        new Run("asset()").tellEach("scene(2)", 8).refusedIndex(call, 8);
    }

    private static void noSuchFrame(String call) {
        following(1).refusedIndex(call, 1);
        following(40).refusedIndex(call, 40);
        following(5).tell("render(0)", "cut(0, 0, 2)").refusedIndex(call, 3).refused(INDEX, call.replace("#", "4"));
    }

    private static void render() {
        Run x = following(3).tell("scene(2)").due(3, "render(0)").dueEach("ofFrame(0, #, 5)", 1, 1, 1);
        x.dueEach("ofFrame(1, #, 5)", 0, 0).due(0, "needs(0)").due(2, "needs(1)").dueEach("kept(0, #, 0)", 0, 0, 0);
        x.due(2, "render(1)").dueEach("kept(1, #, 0)", -1, -1).due(5, "count(5)");
    }

    private static void manyRendered() {
        Run x = following(40).due(40, "render(0)").due(0, "render(0)").due(0, "render(0)");
        x.tell("key(0, 0, 38, 0, HOLD)", "key(0, 0, 39, 1, HOLD)", "publish(0)").due(1, "render(0)")
                .due(0, "render(0)");
        x.tell("cut(0, 0, 39)", "bone(0, NONE)", "publish(0)").due(1, "render(0)").due(0, "render(0)");
        x.tell("scene(1)").due(1, "render(1)").due(0, "render(1)").due(43, "count(5)");
    }

    private static void renderOne() {
        Run x = following(3).tell("renderOne(0, 1)").dueEach("ofFrame(0, #, 5)", 0, 1, 0).due(1, "count(5)");
        x.dueEach("kept(0, #, 0)", -1, 0, -1).due(2, "needs(0)").due(2, "render(0)");
        Run ends = following(40).tell("renderOne(0, 0)", "renderOne(0, 39)").due(38, "needs(0)");
        ends.due(1, "ofFrame(0, 0, 5)").due(1, "ofFrame(0, 39, 5)").due(0, "ofFrame(0, 38, 5)");
    }

    private static void renderOneUnneeded() {
        Run x = following(2).tell("render(0)", "renderOne(0, 1)", "renderOne(0, 1)");
        x.dueEach("ofFrame(0, #, 5)", 1, 3).due(4, "count(5)").due(0, "needs(0)");
        x.tell("publish(0)", "renderOne(0, 1)").dueEach("kept(0, #, 0)", 0, 1).dueEach("ofFrame(0, #, 5)", 1, 4);
    }

    private static void neededIt() {
        Run x = following(2).due(true, "renderOne(0, 0)").due(false, "renderOne(0, 0)").due(true, "renderOne(0, 1)");
        x.tell("publish(0)").due(false, "renderOne(0, 0)");
        x.tell("key(0, 0, 0, 1, HOLD)", "publish(0)").due(true, "renderOne(0, 0)").due(false, "renderOne(0, 0)");
        x.tell("cast(0, 0, NONE, 1, 1)").due(true, "renderOne(0, 0)").due(false, "renderOne(0, 0)");
        new Run("scene(1)").due(true, "renderOne(0, 0)").due(false, "renderOne(0, 0)");
    }

    private static void needs() {
        Run x = following(4).tell("scene(2)").due(4, "needs(0)").due(2, "needs(1)").tell("renderOne(0, 2)");
        x.due(3, "needs(0)").tell("render(0)").due(0, "needs(0)").due(2, "needs(1)");
        x.tell("key(0, 0, 1, 0, HOLD)", "key(0, 0, 2, 5, HOLD)", "publish(0)").due(2, "needs(0)");
        x.tell("cut(0, 3, 1)").due(1, "needs(0)").tell("cut(0, 0, 1)").due(1, "needs(0)");
    }

    private static void needsAllOrNone() {
        Run x = following(40).due(40, "needs(0)").tell("render(0)").due(0, "needs(0)").tell("bone(0, 0)", "publish(0)");
        x.due(40, "needs(0)").tell("render(0)").due(0, "needs(0)").tell("cast(0, 0, NONE, 39, 39)").due(39, "needs(0)");
        new Run("scene(1)").due(1, "needs(0)").tell("render(0)").due(0, "needs(0)");
    }

    private static void mixes() {
        Run x = following(3).due(0, "mixes(0)").tell("render(0)").due(0, "mixes(0)").tell("publish(0)");
        x.due(0, "mixes(0)").tell("renderOne(0, 2)").due(1, "mixes(0)").tell("scene(2)", "cast(1, 0, NONE, 0, 1)");
        x.due(0, "mixes(1)").tell("render(1)").due(0, "mixes(1)").due(1, "mixes(0)");
        x.tell("render(0)").due(0, "mixes(0)");
    }

    private static void mixesAllOrNone() {
        Run x = new Run("scene(2)").tellEach("asset()", 8).tellEach("bone(#, NONE)", 8).tellEach("publish(#)", 8);
        x.tellEach("cast(0, #, NONE, 0, 1)", 8).tell("render(0)").due(0, "mixes(0)").tellEach("publish(#)", 8);
        x.tell("renderOne(0, 1)").due(8, "mixes(0)").tell("cast(0, 7, 1, 0, 1)").due(7, "mixes(0)");
        x.tell("cast(0, 0, 0, 0, 1)").due(6, "mixes(0)").tell("cut(0, 0, 1)").due(0, "mixes(0)");
    }

    private static void ofFrame() {
        Run x = following(6).tell("note(0, 4)", "cut(0, 0, 2)", "renderOne(0, 2)", "renderOne(0, 2)");
        x.dueEach("ofFrame(0, 2, #)", 4, 1, 0, 1, 1, 2).dueEach("ofFrame(0, 3, #)", 5, 0, 1, 1, 0, 0);
    }

    private static void shown() {
        Run x = new Run("scene(40)").due(0, "ofFrame(0, 0, 0)").due(39, "ofFrame(0, 39, 0)").tell("cut(0, 0, 38)");
        x.due(38, "ofFrame(0, 0, 0)").due(39, "ofFrame(0, 1, 0)").tell("cut(0, 0, 1)").due(39, "ofFrame(0, 0, 0)");
    }

    private static void wasRendered() {
        Run x = following(3).dueEach("ofFrame(0, #, 1)", 0, 0, 0).tell("renderOne(0, 2)");
        x.dueEach("ofFrame(0, #, 1)", 0, 0, 1).tell("renderOne(0, 2)").dueEach("ofFrame(0, #, 1)", 0, 0, 1);
        x.tell("bone(0, 0)", "publish(0)").dueEach("ofFrame(0, #, 1)", 0, 0, 1).tell("render(0)");
        x.dueEach("ofFrame(0, #, 1)", 1, 1, 1);
    }

    private static void needsToBe() {
        Run x = following(3).dueEach("ofFrame(0, #, 2)", 1, 1, 1).tell("renderOne(0, 1)");
        x.dueEach("ofFrame(0, #, 2)", 1, 0, 1).tell("render(0)").dueEach("ofFrame(0, #, 2)", 0, 0, 0);
        x.tell("cast(0, 0, NONE, 2, 2)").dueEach("ofFrame(0, #, 2)", 1, 1, 0);
    }

    private static void bonesSeen() {
        Run x = new Run("scene(2)").due(0, "ofFrame(0, 0, 3)").tellEach("asset()", 8);
        for (int i = 0; i < 8; i++) {
            x.tell("bone(" + i + ", NONE)", "bone(" + i + ", 0)");
        }
        x.tellEach("cast(0, #, NONE, 1, 1)", 8).due(0, "ofFrame(0, 1, 3)").tellEach("publish(#)", 8);
        x.dueEach("ofFrame(0, #, 3)", 0, 16).tell("bone(0, NONE)").due(16, "ofFrame(0, 1, 3)");
        x.tell("publish(0)").due(17, "ofFrame(0, 1, 3)").tell("cast(0, 0, 0, 1, 1)").due(16, "ofFrame(0, 1, 3)");
        x.tell("render(0)", "cast(0, 0, 1, 0, 0)").dueEach("ofFrame(0, #, 3)", 3, 14);
    }

    private static void openNotes() {
        Run x = new Run("scene(3)", "scene(3)").dueEach("ofFrame(0, #, 4)", 0, 0, 0).tell("note(0, 1)", "note(0, 1)");
        x.tell("note(1, 1)", "note(0, 2)").dueEach("ofFrame(0, #, 4)", 0, 2, 1).tell("settle(0)");
        x.dueEach("ofFrame(0, #, 4)", 0, 1, 1).tell("cut(0, 1, 1)").dueEach("ofFrame(0, #, 4)", 0, 2);
        x.tell("settle(1)", "settle(3)").dueEach("ofFrame(0, #, 4)", 0, 0).dueEach("ofFrame(1, #, 4)", 0, 1, 0);
        Run full = new Run("scene(2)").tellEach("note(0, 1)", 40).dueEach("ofFrame(0, #, 4)", 0, 40);
        full.tell("cut(0, 1, 1)").due(40, "ofFrame(0, 0, 4)").tell("settle(39)").due(39, "ofFrame(0, 0, 4)");
    }

    private static void howOften() {
        Run x = following(3).dueEach("ofFrame(0, #, 5)", 0, 0, 0).tell("render(0)")
                .dueEach("ofFrame(0, #, 5)", 1, 1, 1);
        x.tell("render(0)").dueEach("ofFrame(0, #, 5)", 1, 1, 1).tell("renderOne(0, 2)", "renderOne(0, 2)");
        x.dueEach("ofFrame(0, #, 5)", 1, 1, 3).tell("publish(0)", "render(0)").dueEach("ofFrame(0, #, 5)", 1, 1, 3);
        x.tell("bone(0, 0)", "publish(0)", "render(0)").dueEach("ofFrame(0, #, 5)", 2, 2, 4).tell("cut(0, 0, 1)");
        x.dueEach("ofFrame(0, #, 5)", 2, 4, INDEX);
        Run often = new Run("scene(1)").tellEach("renderOne(0, 0)", 500);
        often.due(500, "ofFrame(0, 0, 5)").due(1, "ofFrame(0, 0, 1)").due(500, "count(5)");
    }

    private static void ofFrameInOrder() {
        Run x = following(40)
                .tell("scene(1)", "bone(0, NONE)", "bone(0, 0)", "publish(0)", "note(0, 39)", "note(0, 38)");
        x.tell("settle(1)", "renderOne(0, 39)", "renderOne(0, 39)", "cast(0, 0, 0, 0, 39)", "note(0, 39)");
        x.dueEach("ofFrame(0, 39, #)", 39, 1, 1, 1, 2, 2).dueEach("ofFrame(0, 38, #)", 38, 0, 1, 1, 0, 0);
        x.tell("cast(0, 0, 1, 0, 39)").dueEach("ofFrame(0, 39, #)", 39, 1, 0, 3, 2, 2);
    }

    private static void kept() {
        Run x = following(3).tell("asset()", "bone(1, NONE)", "publish(1)", "publish(1)", "cast(0, 1, NONE, 1, 2)");
        x.tell("renderOne(0, 0)", "renderOne(0, 1)").dueEach("kept(0, #, 0)", 0, 0, -1)
                .dueEach("kept(0, #, 1)", -1, 1, -1);
        x.tell("publish(0)", "publish(1)").dueEach("kept(0, #, 0)", 0, 0, -1).dueEach("kept(0, #, 1)", -1, 1, -1);
        x.tell("cast(0, 1, 0, 0, 0)").dueEach("kept(0, #, 1)", -1, 1, -1);
        x.tell("cut(0, 0, 1)").dueEach("kept(0, #, 1)", 1, -1, INDEX);
    }

    private static void keptVersions() {
        Run x = following(1).tell("render(0)").due(0, "kept(0, 0, 0)");
        for (int i = 1; i < 12; i++) {
            x.tell("publish(0)", i % 2 == 0 ? "render(0)" : "renderOne(0, 0)").due(i, "kept(0, 0, 0)");
        }
        x.tell("cast(0, 0, 3, 0, 0)").due(11, "kept(0, 0, 0)").due(0, "render(0)").due(3, "kept(0, 0, 0)");
        Run last = new Run("scene(1)").tellEach("asset()", 8)
                .tell("bone(7, NONE)", "publish(7)", "cast(0, 7, 0, 0, 0)");
        last.tell("render(0)").dueEach("kept(0, 0, #)", -1, -1, -1, -1, -1, -1, -1, 0);
    }

    private static void keptUnrendered() {
        Run x = following(2).dueEach("kept(0, #, 0)", -1, -1).tell("renderOne(0, 1)").dueEach("kept(0, #, 0)", -1, 0);
        x.tell("publish(0)", "renderOne(0, 1)").dueEach("kept(0, #, 0)", -1, 1).tell("scene(1)")
                .due(-1, "kept(1, 0, 0)");
    }

    private static void keptUnseen() {
        Run x = new Run("asset()", "scene(2)", "render(0)").dueEach("kept(0, #, 0)", -1, -1);
        x.tell("cast(0, 0, NONE, 0, 1)").due(0, "render(0)").dueEach("kept(0, #, 0)", -1, -1);
        x.tell("bone(0, NONE)", "publish(0)").dueEach("kept(0, #, 0)", -1, -1).tell("cast(0, 0, 0, 1, 39)");
        x.due(1, "render(0)").dueEach("kept(0, #, 0)", -1, 0).tell("cast(0, 0, 0, 2, 39)")
                .dueEach("kept(0, #, 0)", -1, 0);
        x.due(1, "render(0)").dueEach("kept(0, #, 0)", -1, -1);
    }

    private static void count() {
        Run x = following(4).tell("note(0, 0)", "renderOne(0, 0)").dueEach("count(#)", 1, 1, 1, 4, 3, 1, 1);
    }

    private static void countsUp(int what, int most, String call) {
        Run x = new Run();
        for (int i = 0; i < most; i++) {
            x.due(i, "count(" + what + ")").tell(call);
        }
        x.due(most, "count(" + what + ")").refused(Run.STATE, call).due(most, "count(" + what + ")");
    }

    private static void countVersions() {
        Run x = new Run().tellEach("asset()", 8).tellEach("bone(#, NONE)", 8).due(0, "count(1)");
        for (int i = 1; i <= 12; i++) {
            x.tellEach("publish(#)", 8).due(8 * i, "count(1)");
        }
        x.refused(Run.STATE, "publish(0)").due(96, "count(1)");
    }

    private static void countFrames() {
        Run x = new Run().due(0, "count(3)").tell("scene(1)").due(1, "count(3)").tellEach("scene(40)", 7);
        x.due(281, "count(3)").tell("cut(7, 0, 39)", "cut(1, 39, 1)").due(241, "count(3)");
    }

    private static void countNeeds() {
        Run x = new Run("asset()").tellEach("scene(40)", 8).due(320, "count(4)").tell("render(7)").due(280, "count(4)");
        x.tell("cut(0, 0, 39)").due(241, "count(4)").tellEach("render(#)", 7).due(0, "count(4)");
        x.tell("bone(0, NONE)", "publish(0)").due(0, "count(4)").tell("cast(7, 0, NONE, 0, 0)").due(1, "count(4)");
        x.tell("cast(1, 0, NONE, 0, 39)").due(41, "count(4)");
    }

    private static void countRenderings() {
        Run x = following(40).tell("scene(1)").due(0, "count(5)").tell("render(0)").due(40, "count(5)")
                .tell("render(0)");
        x.due(40, "count(5)").tell("renderOne(0, 7)", "renderOne(1, 0)").due(42, "count(5)")
                .tell("publish(0)", "render(0)");
        x.due(42, "count(5)").tell("bone(0, 0)", "publish(0)", "render(0)").due(82, "count(5)");
    }

    private static void countRenderingsCutOut() {
        Run x = following(3).tell("render(0)", "renderOne(0, 1)", "cut(0, 1, 1)").due(4, "count(5)")
                .tell("cut(0, 0, 1)");
        x.due(4, "count(5)").due(1, "ofFrame(0, 0, 5)").tell("renderOne(0, 0)").due(5, "count(5)");
    }

    private static void countOpenNotes() {
        Run x = new Run("scene(2)", "scene(2)").due(0, "count(6)").tellEach("note(0, 1)", 39).tell("note(1, 0)");
        x.due(40, "count(6)").tell("settle(39)", "settle(0)").due(38, "count(6)").tell("cut(0, 1, 1)")
                .due(38, "count(6)");
        for (int i = 1; i < 39; i++) {
            x.tell("settle(" + i + ")");
        }
        x.due(0, "count(6)");
    }

    private static void countsInOrder() {
        Run x = new Run("asset()", "asset()", "bone(0, NONE)", "publish(0)", "publish(0)", "publish(0)", "scene(4)");
        x.tell("scene(3)", "scene(2)", "scene(1)", "note(0, 0)", "note(1, 0)", "note(0, 1)", "note(0, 2)",
                "note(0, 3)");
        x.tell("render(0)", "render(2)", "renderOne(0, 1)").dueEach("count(#)", 2, 3, 4, 10, 4, 7, 5);
    }
}
