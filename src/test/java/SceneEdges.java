/** Promises 10 to 15, sentence by sentence. */
final class SceneEdges {
    private static final String INDEX = Run.INDEX;
    private static final String ARGUMENT = Run.ARGUMENT;
    private static final String STATE = Run.STATE;

    private SceneEdges() {
    }

    static void run(Sentences doc) {
        doc.promise(10, "Tells a scene.", SceneEdges::scene);
        doc.promise(10, "`frames`: 1 to 40", SceneEdges::framesOfAScene);
        doc.promise(10, "Returns its number.", () -> new Run().dueEach("scene(3)", 0, 1, 2, 3, 4, 5, 6, 7));
        doc.promise(10, "if frames is out of range", () -> {
            new Run().refused(ARGUMENT, "scene(0)", "scene(41)", "scene(-1)", "scene(LOWEST)", "scene(HIGHEST)");
            new Run("scene(1)").refused(ARGUMENT, "scene(0)", "scene(41)").due(1, "scene(40)");
        });
        doc.promise(10, "if there are 8", SceneEdges::eightScenes);
        casts(doc);
        cuts(doc);
        notes(doc);
    }

    private static void casts(Sentences doc) {
        doc.promise(11, "Casts an asset in a scene", SceneEdges::cast);
        doc.promise(11, "in place of how it was", SceneEdges::castInPlace);
        doc.promise(11, "the version to which it is pinned, or NONE to follow", SceneEdges::castVersions);
        doc.promise(11, "`from`: 0 to 39", SceneEdges::castFrom);
        doc.promise(11, "`to`: from to 39", SceneEdges::castTo);
        doc.promise(11, "Returns how many assets are cast in the scene.", SceneEdges::manyCast);
        doc.promise(11, "if there is no such scene", () -> {
            new Run("asset()").refusedIndex("cast(#, 0, NONE, 0, 0)", 0);
            new Run("asset()", "scene(4)").refusedIndex("cast(#, 0, NONE, 0, 0)", 1);
            new Run("asset()").tellEach("scene(4)", 8).refusedIndex("cast(#, 0, NONE, 0, 0)", 8);
        });
        doc.promise(11, "asset or version", SceneEdges::castNoAssetOrVersion);
        doc.promise(11, "if from or to is out of range", SceneEdges::castOutOfRange);
    }

    private static void cuts(Sentences doc) {
        doc.promise(12, "Cuts frames out of a scene.", SceneEdges::cut);
        doc.promise(12, "`from`: the first one", SceneEdges::cutFrom);
        doc.promise(12, "`many`: 1 or more", SceneEdges::cutMany);
        doc.promise(12, "Returns how many are left.", SceneEdges::manyLeft);
        doc.promise(12, "if there is no such scene", () -> {
            new Run().refusedIndex("cut(#, 0, 1)", 0);
            new Run("scene(5)").refusedIndex("cut(#, 0, 1)", 1);
            new Run().tellEach("scene(5)", 8).refusedIndex("cut(#, 0, 1)", 8);
        });
        doc.promise(12, "or frame", () -> {
            new Run("scene(40)").refusedIndex("cut(0, #, 1)", 40);
            new Run("scene(5)").refusedIndex("cut(0, #, 1)", 5).tell("cut(0, 0, 2)").refusedIndex("cut(0, #, 1)", 3);
        });
        doc.promise(12, "if many is below 1", () -> {
            Run x = new Run("scene(5)", "note(0, 0)", "note(0, 4)");
            x.refused(ARGUMENT, "cut(0, 0, 0)", "cut(0, 0, -1)", "cut(0, 4, 0)", "cut(0, 4, -4)", "cut(0, 2, LOWEST)");
            new Run("scene(1)").refused(ARGUMENT, "cut(0, 0, 0)", "cut(0, 0, -1)", "cut(0, 0, LOWEST)");
        });
        doc.promise(12, "if there are not so many", SceneEdges::notSoMany);
        doc.promise(12, "or none would be left", SceneEdges::noneLeft);
    }

    private static void notes(Sentences doc) {
        doc.promise(13, "Puts a note on a frame.", SceneEdges::note);
        doc.promise(13, "Returns the number of the note.", SceneEdges::numberOfANote);
        doc.promise(13, "if there is no such scene", () -> {
            new Run().refusedIndex("note(#, 0)", 0);
            new Run("scene(5)").refusedIndex("note(#, 0)", 1);
            new Run().tellEach("scene(5)", 8).refusedIndex("note(#, 0)", 8);
        });
        doc.promise(13, "or frame", () -> {
            new Run("scene(40)").refusedIndex("note(0, #)", 40);
            new Run("scene(5)").refusedIndex("note(0, #)", 5).tell("cut(0, 0, 2)").refusedIndex("note(0, #)", 3);
        });
        doc.promise(13, "if there are 40", SceneEdges::fortyNotes);
        doc.promise(14, "Settles a note.", SceneEdges::settle);
        doc.promise(14, "Returns how many of its scene are not settled.", SceneEdges::manyOpen);
        doc.promise(14, "if there is no such note", () -> {
            new Run("scene(2)").refusedIndex("settle(#)", 0);
            new Run("scene(2)", "note(0, 0)", "note(0, 1)").refusedIndex("settle(#)", 2);
            new Run("scene(2)").tellEach("note(0, 1)", 40).refusedIndex("settle(#)", 40);
        });
        doc.promise(14, "if it was settled", SceneEdges::settleAgain);
        doc.promise(15, "Tells of a note.", SceneEdges::ofNote);
        doc.promise(15, "0 its scene", SceneEdges::sceneOfANote);
        doc.promise(15, "1 the number of its frame now", SceneEdges::frameOfANote);
        doc.promise(15, "2 whether it was settled, 1 or 0", SceneEdges::settledNotes);
        doc.promise(15, "3 how often it was carried", SceneEdges::carriedNotes);
        doc.promise(15, "Returns as told.", SceneEdges::ofNoteInOrder);
        doc.promise(15, "if there is no such note", () -> {
            new Run("scene(2)").refusedIndex("ofNote(#, 0)", 0);
            new Run("scene(2)", "note(0, 1)").refusedIndex("ofNote(#, 0)", 1);
            new Run("scene(2)").tellEach("note(0, 1)", 40).refusedIndex("ofNote(#, 0)", 40);
        });
        doc.promise(15, "or what is out of range", () -> {
            new Run("scene(2)", "note(0, 1)").refusedIndex("ofNote(0, #)", 4);
        });
    }

    private static void scene() {
        Run x = new Run("scene(3)").due(1, "count(2)").due(3, "count(3)").due(3, "needs(0)").due(0, "mixes(0)");
        x.dueEach("ofFrame(0, #, 0)", 0, 1, 2, INDEX).dueEach("ofFrame(0, #, 5)", 0, 0, 0, INDEX);
        x.tell("asset()", "cast(0, 0, NONE, 0, 39)", "render(0)", "scene(2)").due(2, "needs(1)")
                .due(1, "ofAsset(0, 2)");
        x.due(0, "needs(0)").due(1, "cast(1, 0, NONE, 0, 39)");
    }

    private static void framesOfAScene() {
        Run x = new Run("scene(1)", "scene(40)", "scene(2)", "scene(39)");
        x.due(0, "ofFrame(0, 0, 0)").due(INDEX, "ofFrame(0, 1, 0)").due(1, "needs(0)");
        x.due(39, "ofFrame(1, 39, 0)").due(INDEX, "ofFrame(1, 40, 0)").due(40, "needs(1)");
        x.due(1, "ofFrame(2, 1, 0)").due(INDEX, "ofFrame(2, 2, 0)").due(2, "needs(2)");
        x.due(38, "ofFrame(3, 38, 0)").due(INDEX, "ofFrame(3, 39, 0)").due(39, "needs(3)").due(82, "count(3)");
    }

    private static void eightScenes() {
        Run x = new Run().tellEach("scene(2)", 7).due(7, "scene(40)");
        x.refused(STATE, "scene(1)", "scene(40)").due(8, "count(2)").due(54, "count(3)");
    }

    private static void cast() {
        Run x = new Run("asset()", "bone(0, NONE)", "bone(0, NONE)", "publish(0)", "scene(4)", "scene(4)");
        x.due(1, "cast(0, 0, 0, 1, 2)").dueEach("ofFrame(0, #, 3)", 0, 2, 2, 0);
        x.dueEach("ofFrame(1, #, 3)", 0, 0, 0, 0).due(1, "ofAsset(0, 2)");
    }

    private static void castInPlace() {
        Run x = new Run("asset()", "bone(0, NONE)", "publish(0)", "bone(0, NONE)", "publish(0)", "scene(4)");
        x.due(1, "cast(0, 0, 0, 0, 1)").dueEach("ofFrame(0, #, 3)", 1, 1, 0, 0);
        x.due(1, "cast(0, 0, 0, 2, 3)").dueEach("ofFrame(0, #, 3)", 0, 0, 1, 1);
        x.due(1, "cast(0, 0, 1, 2, 3)").dueEach("ofFrame(0, #, 3)", 0, 0, 2, 2);
        x.due(1, "cast(0, 0, NONE, 0, 0)").dueEach("ofFrame(0, #, 3)", 2, 0, 0, 0);
        x.due(1, "cast(0, 0, 0, 0, 39)").dueEach("ofFrame(0, #, 3)", 1, 1, 1, 1);
        x.due(1, "cast(0, 0, NONE, 20, 39)").dueEach("ofFrame(0, #, 3)", 0, 0, 0, 0).due(1, "ofAsset(0, 2)");
    }

    private static void castVersions() {
        Run x = new Run("asset()", "scene(1)", "scene(1)", "scene(1)", "cast(0, 0, NONE, 0, 39)");
        x.tell("bone(0, NONE)", "publish(0)", "cast(1, 0, 0, 0, 39)");
        for (int i = 1; i < 10; i++) {
            x.tell("bone(0, NONE)", "publish(0)");
        }
        x.tell("publish(0)", "publish(0)", "cast(2, 0, 11, 0, 39)");
        x.due(10, "ofFrame(0, 0, 3)").due(1, "ofFrame(1, 0, 3)").due(10, "ofFrame(2, 0, 3)");
        x.dueEach("render(#)", 1, 1, 1).dueEach("kept(#, 0, 0)", 11, 0, 11);
        for (int i = 0; i < 10; i++) {
            x.tell("cast(1, 0, " + i + ", 0, 39)").due(i + 1, "ofFrame(1, 0, 3)");
        }
    }

    private static Run withVersion(int frames) {
        return new Run("asset()", "bone(0, NONE)", "publish(0)", "scene(" + frames + ")");
    }

    private static void castFrom() {
        withVersion(40).due(1, "cast(0, 0, 0, 0, 39)").due(1, "ofFrame(0, 0, 3)").due(1, "ofFrame(0, 39, 3)");
        withVersion(40).due(1, "cast(0, 0, 0, 39, 39)").due(0, "ofFrame(0, 38, 3)").due(1, "ofFrame(0, 39, 3)");
        withVersion(40).due(1, "cast(0, 0, 0, 1, 39)").due(0, "ofFrame(0, 0, 3)").due(1, "ofFrame(0, 1, 3)");
        withVersion(3).due(1, "cast(0, 0, 0, 38, 39)").dueEach("ofFrame(0, #, 3)", 0, 0, 0);
    }

    private static void castTo() {
        withVersion(40).due(1, "cast(0, 0, 0, 0, 0)").due(1, "ofFrame(0, 0, 3)").due(0, "ofFrame(0, 1, 3)");
        withVersion(40).due(1, "cast(0, 0, 0, 7, 7)").due(0, "ofFrame(0, 6, 3)").due(1, "ofFrame(0, 7, 3)");
        withVersion(40).due(1, "cast(0, 0, 0, 7, 7)").due(0, "ofFrame(0, 8, 3)");
        withVersion(40).due(1, "cast(0, 0, 0, 7, 38)").due(1, "ofFrame(0, 38, 3)").due(0, "ofFrame(0, 39, 3)");
        withVersion(3).due(1, "cast(0, 0, 0, 2, 39)").dueEach("ofFrame(0, #, 3)", 0, 0, 1);
    }

    private static void manyCast() {
        Run x = new Run().tellEach("asset()", 8).tell("scene(1)", "scene(1)");
        x.dueEach("cast(0, #, NONE, 0, 0)", 1, 2, 3, 4, 5, 6, 7, 8).due(8, "cast(0, 0, NONE, 39, 39)");
        x.due(1, "cast(1, 7, NONE, 0, 0)").due(1, "cast(1, 7, NONE, 0, 0)").due(2, "cast(1, 0, NONE, 0, 0)");
    }

    private static void castNoAssetOrVersion() {
        new Run("scene(4)").refusedIndex("cast(0, #, NONE, 0, 0)", 0);
        Run x = new Run("asset()", "asset()", "bone(0, NONE)", "publish(0)", "publish(0)", "scene(4)");
        x.refusedIndex("cast(0, #, NONE, 0, 0)", 2).refusedIndex("cast(0, #, 0, 0, 0)", 2);
        x.refused(INDEX, "cast(0, 0, 2, 0, 0)", "cast(0, 0, -2, 0, 0)", "cast(0, 1, 0, 0, 0)", "cast(0, 1, 1, 0, 0)");
        x.refused(INDEX, "cast(0, 0, LOWEST, 0, 0)", "cast(0, 0, HIGHEST, 0, 0)");
        x.tell("cast(0, 0, 1, 1, 1)", "render(0)").refused(INDEX, "cast(0, 0, 2, 0, 3)", "cast(0, 1, 0, 0, 3)");
        Run full = new Run().tellEach("asset()", 8).tell("bone(7, NONE)").tellEach("publish(7)", 12).tell("scene(4)");
        full.refusedIndex("cast(0, #, NONE, 0, 0)", 8).refused(INDEX, "cast(0, 7, 12, 0, 0)");
        full.due(1, "cast(0, 7, 11, 0, 0)").due(2, "cast(0, 0, NONE, 0, 0)");
    }

    private static void castOutOfRange() {
        Run x = withVersion(4);
        x.refused(ARGUMENT, "cast(0, 0, 0, -1, 3)", "cast(0, 0, 0, -1, -1)", "cast(0, 0, 0, 40, 40)");
        x.refused(ARGUMENT, "cast(0, 0, 0, 0, 40)", "cast(0, 0, 0, 39, 40)", "cast(0, 0, 0, 0, -1)");
        x.refused(ARGUMENT, "cast(0, 0, 0, 1, 0)", "cast(0, 0, 0, 39, 38)", "cast(0, 0, 0, 40, 39)");
        x.refused(ARGUMENT, "cast(0, 0, 0, LOWEST, 3)", "cast(0, 0, 0, 0, HIGHEST)", "cast(0, 0, 0, HIGHEST, LOWEST)");
        x.refused(ARGUMENT, "cast(0, 0, NONE, HIGHEST, HIGHEST)", "cast(0, 0, NONE, LOWEST, LOWEST)");
        x.tell("cast(0, 0, NONE, 1, 2)", "render(0)");
        x.refused(ARGUMENT, "cast(0, 0, 0, 2, 1)", "cast(0, 0, 0, 0, 40)", "cast(0, 0, 0, -1, 3)");
        x.dueEach("ofFrame(0, #, 3)", 0, 1, 1, 0);
    }

    private static void cut() {
        Run x = new Run("scene(8)", "scene(8)").due(5, "cut(0, 2, 3)");
        x.dueEach("ofFrame(0, #, 0)", 0, 1, 5, 6, 7, INDEX).due(13, "count(3)").due(5, "needs(0)");
        x.dueEach("ofFrame(1, #, 0)", 0, 1, 2, 3, 4, 5, 6, 7, INDEX);
        x.due(3, "cut(0, 1, 2)").dueEach("ofFrame(0, #, 0)", 0, 6, 7, INDEX);
        x.due(2, "cut(0, 1, 1)").dueEach("ofFrame(0, #, 0)", 0, 7, INDEX);
    }

    private static void cutFrom() {
        new Run("scene(5)").due(4, "cut(0, 0, 1)").dueEach("ofFrame(0, #, 0)", 1, 2, 3, 4, INDEX);
        new Run("scene(5)").due(4, "cut(0, 4, 1)").dueEach("ofFrame(0, #, 0)", 0, 1, 2, 3, INDEX);
        new Run("scene(5)").due(4, "cut(0, 3, 1)").dueEach("ofFrame(0, #, 0)", 0, 1, 2, 4, INDEX);
        new Run("scene(40)").due(39, "cut(0, 39, 1)").due(38, "ofFrame(0, 38, 0)").due(INDEX, "ofFrame(0, 39, 0)");
        new Run("scene(40)").due(39, "cut(0, 0, 1)").due(39, "ofFrame(0, 38, 0)").due(INDEX, "ofFrame(0, 39, 0)");
    }

    private static void cutMany() {
        new Run("scene(5)").due(4, "cut(0, 2, 1)").dueEach("ofFrame(0, #, 0)", 0, 1, 3, 4, INDEX);
        new Run("scene(5)").due(2, "cut(0, 2, 3)").dueEach("ofFrame(0, #, 0)", 0, 1, INDEX);
        new Run("scene(5)").due(1, "cut(0, 1, 4)").dueEach("ofFrame(0, #, 0)", 0, INDEX);
        new Run("scene(5)").due(1, "cut(0, 0, 4)").dueEach("ofFrame(0, #, 0)", 4, INDEX);
        new Run("scene(40)").due(1, "cut(0, 0, 39)").dueEach("ofFrame(0, #, 0)", 39, INDEX);
        new Run("scene(2)").due(1, "cut(0, 0, 1)").dueEach("ofFrame(0, #, 0)", 1, INDEX);
    }

    private static void manyLeft() {
        Run x = new Run("scene(40)", "scene(3)").due(30, "cut(0, 0, 10)").due(29, "cut(0, 29, 1)");
        x.due(2, "cut(1, 1, 1)").due(1, "cut(0, 1, 28)").due(3, "count(3)");
    }

    private static void notSoMany() {
        Run x = new Run("scene(5)", "note(0, 4)", "render(0)");
        x.refused(STATE, "cut(0, 4, 2)", "cut(0, 3, 3)", "cut(0, 1, 5)", "cut(0, 0, 6)");
        x.refused(STATE, "cut(0, 0, HIGHEST)", "cut(0, 1, HIGHEST)", "cut(0, 4, HIGHEST)", "cut(0, 4, 2147483644)");
        x.due(4, "cut(0, 4, 1)").refused(STATE, "cut(0, 3, 2)").due(2, "cut(0, 2, 2)");
        Run full = new Run("scene(40)").refused(STATE, "cut(0, 39, 2)", "cut(0, 1, 40)", "cut(0, 39, HIGHEST)");
        full.due(1, "cut(0, 1, 39)");
    }

    private static void noneLeft() {
        Run x = new Run("scene(5)", "note(0, 2)").refused(STATE, "cut(0, 0, 5)").due(1, "cut(0, 0, 4)");
        x.refused(STATE, "cut(0, 0, 1)", "cut(0, 0, 2)", "cut(0, 0, HIGHEST)").due(1, "count(3)");
        new Run("scene(1)").refused(STATE, "cut(0, 0, 1)");
        new Run("scene(40)").refused(STATE, "cut(0, 0, 40)");
    }

    private static void note() {
        Run x = new Run("scene(4)", "scene(4)").due(0, "note(1, 3)").dueEach("ofNote(0, #)", 1, 3, 0, 0);
        x.due(1, "note(0, 0)").dueEach("ofNote(1, #)", 0, 0, 0, 0);
        x.due(1, "ofFrame(1, 3, 4)").due(0, "ofFrame(0, 3, 4)").due(1, "ofFrame(0, 0, 4)").due(0, "ofFrame(1, 0, 4)");
        x.due(2, "note(1, 3)").due(2, "ofFrame(1, 3, 4)").due(3, "count(6)").due(8, "count(4)");
    }

    private static void numberOfANote() {
        Run x = new Run("scene(4)", "scene(1)").dueEach("note(0, #)", 0, 1, 2, 3).due(4, "note(1, 0)");
        x.tell("settle(0)", "cut(0, 1, 3)").due(5, "note(0, 0)").due(6, "note(0, 0)");
    }

    private static void fortyNotes() {
        Run x = new Run("scene(2)", "scene(2)").tellEach("note(0, 1)", 39).due(39, "note(1, 0)");
        x.refused(STATE, "note(0, 0)", "note(1, 1)").due(40, "count(6)").due(39, "ofFrame(0, 1, 4)");
        x.tell("settle(0)", "cut(0, 1, 1)").refused(STATE, "note(0, 0)");
        x.dueEach("ofNote(39, #)", 1, 0, 0, 0).due(INDEX, "ofNote(40, 0)");
    }

    private static void settle() {
        Run x = new Run("scene(3)", "note(0, 1)", "note(0, 1)", "note(0, 2)").due(2, "settle(1)");
        x.dueEach("ofNote(#, 2)", 0, 1, 0).dueEach("ofFrame(0, #, 4)", 0, 1, 1).due(2, "count(6)");
        x.dueEach("ofNote(1, #)", 0, 1, 1, 0);
    }

    private static void manyOpen() {
        Run x = new Run("scene(3)", "scene(3)", "note(0, 0)", "note(1, 0)", "note(0, 2)", "note(0, 0)");
        x.due(2, "settle(2)").due(0, "settle(1)").due(1, "settle(0)").tell("note(0, 1)").due(1, "settle(3)");
        x.due(0, "settle(4)").due(0, "count(6)");
        Run full = new Run("scene(2)").tellEach("note(0, 1)", 40).due(39, "settle(0)").due(38, "settle(39)");
        full.due(37, "settle(20)").tell("cut(0, 1, 1)").due(36, "settle(1)");
    }

    private static void settleAgain() {
        Run x = new Run("scene(3)", "note(0, 0)", "note(0, 1)", "settle(0)").refused(STATE, "settle(0)", "settle(0)");
        x.tell("cut(0, 0, 1)").refused(STATE, "settle(0)").due(0, "settle(1)").refused(STATE, "settle(1)", "settle(0)");
        Run full = new Run("scene(1)").tellEach("note(0, 0)", 40).tell("settle(39)").refused(STATE, "settle(39)");
        full.due(38, "settle(0)");
    }

    private static void ofNote() {
        Run x = new Run("scene(5)", "scene(5)", "note(1, 2)", "settle(0)", "cut(1, 2, 1)", "cut(1, 0, 1)");
        x.dueEach("ofNote(0, #)", 1, 1, 1, 1);
    }

    private static void sceneOfANote() {
        Run x = new Run().tellEach("scene(2)", 8).tellEach("note(#, 1)", 8).tell("note(0, 0)");
        x.dueEach("ofNote(#, 0)", 0, 1, 2, 3, 4, 5, 6, 7, 0);
        x.tell("cut(7, 1, 1)").due(7, "ofNote(7, 0)").due(6, "ofNote(6, 0)");
    }

    private static void frameOfANote() {
        Run x = new Run("scene(40)", "note(0, 0)", "note(0, 39)", "note(0, 20)").dueEach("ofNote(#, 1)", 0, 39, 20);
        x.tell("cut(0, 10, 5)").dueEach("ofNote(#, 1)", 0, 34, 15);
        x.tell("cut(0, 15, 3)").dueEach("ofNote(#, 1)", 0, 31, 15);
        x.tell("cut(0, 16, 16)").dueEach("ofNote(#, 1)", 0, 15, 15);
        x.tell("cut(0, 0, 15)").dueEach("ofNote(#, 1)", 0, 0, 0).dueEach("ofNote(#, 3)", 1, 1, 1);
    }

    private static void settledNotes() {
        Run x = new Run("scene(3)", "note(0, 0)", "note(0, 0)").dueEach("ofNote(#, 2)", 0, 0);
        x.tell("settle(1)").dueEach("ofNote(#, 2)", 0, 1).tell("cut(0, 0, 1)").dueEach("ofNote(#, 2)", 0, 1);
        x.tell("settle(0)").dueEach("ofNote(#, 2)", 1, 1);
    }

    private static void carriedNotes() {
        Run x = new Run("scene(6)", "scene(6)", "note(0, 3)", "note(0, 0)", "note(1, 3)")
                .dueEach("ofNote(#, 3)", 0, 0, 0);
        x.tell("cut(0, 1, 1)").dueEach("ofNote(#, 3)", 0, 0, 0).due(2, "ofNote(0, 1)");
        x.tell("cut(0, 2, 1)").dueEach("ofNote(#, 3)", 1, 0, 0).tell("cut(0, 3, 1)").dueEach("ofNote(#, 3)", 1, 0, 0);
        x.tell("cut(0, 2, 1)").dueEach("ofNote(#, 3)", 2, 0, 0).due(1, "ofNote(0, 1)");
        x.tell("cut(0, 0, 1)").dueEach("ofNote(#, 3)", 2, 1, 0).dueEach("ofNote(#, 1)", 0, 0, 3);
    }

    private static void ofNoteInOrder() {
        Run x = new Run().tellEach("scene(30)", 8).tell("note(7, 20)", "note(7, 9)", "note(7, 4)", "settle(1)");
        x.tell("cut(7, 9, 2)", "cut(7, 9, 2)", "cut(7, 18, 2)");
        x.dueEach("ofNote(0, #)", 7, 16, 0, 0).dueEach("ofNote(1, #)", 7, 9, 1, 2).dueEach("ofNote(2, #)", 7, 4, 0, 0);
        x.tell("cut(7, 9, 1)", "cut(7, 9, 1)").dueEach("ofNote(1, #)", 7, 9, 1, 4);
    }
}
