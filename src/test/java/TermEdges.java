/** What the document says ahead of its promises, sentence by sentence. */
final class TermEdges {
    private static final String INDEX = Run.INDEX;
    private static final String ARGUMENT = Run.ARGUMENT;
    private static final String STATE = Run.STATE;

    private TermEdges() {
    }

    static void run(Sentences doc) {
        doc.terms("An object is used for at most 512 calls", TermEdges::manyCalls);
        doc.terms("poses, frames, notes and what needs to be rendered are asked, which changes nothing",
                TermEdges::asking);
        doc.terms("All divisions are rounded down, also below 0.", TermEdges::roundedDown);
        assets(doc);
        curves(doc);
        scenes(doc);
        notes(doc);
        farm(doc);
        doc.terms("A call that throws an exception changes nothing.", TermEdges::refusedChangesNothing);
        doc.terms("If several apply, the one that the throws clause names first is thrown.", TermEdges::firstNamed);
        doc.terms("The constants: `NONE = -1`: There is none;", TermEdges::none);
        doc.terms("an asset that follows.", TermEdges::noneFollows);
        doc.terms("`HOLD = 0, EVEN = 1, SLOW = 2`: How curves go on.", TermEdges::ways);
    }

    private static void assets(Sentences doc) {
        doc.terms("Assets are numbered from 0, at most 8;", () -> {
            new Run().dueEach("asset()", 0, 1, 2, 3, 4, 5, 6, 7).refused(STATE, "asset()").due(0, "ofAsset(7, 0)");
        });
        doc.terms("a rig of bones numbered from 0, at most 10", () -> {
            Run x = new Run("asset()").dueEach("bone(0, NONE)", 0, 1, 2, 3, 4, 5, 6, 7, 8, 9);
            x.refused(STATE, "bone(0, NONE)").pose(0, "0, NONE, 9, 0").pose(INDEX, "0, NONE, 10, 0");
        });
        doc.terms("each with a parent that was told ahead of it, or none", () -> {
            Run x = new Run("asset()").refused(INDEX, "bone(0, 0)").tell("bone(0, NONE)").refused(INDEX, "bone(0, 1)");
            x.due(1, "bone(0, 0)").due(2, "bone(0, NONE)").refused(INDEX, "bone(0, 3)").due(3, "bone(0, 2)");
        });
        doc.terms("a curve of keys, at most 12: a frame, 0 to 99, a value, and how it goes on", () -> {
            Run x = new Run("asset()", "bone(0, NONE)", "key(0, 0, 99, 5, SLOW)");
            x.dueEach("key(0, 0, #, 5, EVEN)", 2, 3, 4, 5, 6, 7, 8, 9, 10, 11, 12);
            x.refused(STATE, "key(0, 0, 98, 5, EVEN)")
                    .refused(ARGUMENT, "key(0, 0, 100, 5, EVEN)", "key(0, 0, -1, 5, EVEN)");
        });
        doc.terms("a version of its draft, numbered from 0, at most 12, that never changes",
                TermEdges::versionsNeverChange);
        doc.terms("the draft stays, and can be changed further", TermEdges::draftStays);
    }

    private static void curves(Sentences doc) {
        doc.terms("The value of a curve at a frame is 0 without keys", TermEdges::noKeys);
        doc.terms("that of the first key up to it", TermEdges::upToTheFirst);
        doc.terms("that of the last one from it on", TermEdges::fromTheLast);
        doc.terms("otherwise, of the last key that is not behind the frame, and the next one", TermEdges::betweenKeys);
        doc.terms("by HOLD that of the first one", TermEdges::hold);
        doc.terms("by EVEN that, and the difference of both times the frames gone, divided by those between",
                TermEdges::even);
        doc.terms("by SLOW that, and the difference times the square of the frames gone, divided by the square",
                TermEdges::slow);
        doc.terms("How the first one of both goes on counts.", TermEdges::firstCounts);
        doc.terms("The pose of a bone at a frame is the value of its curve and that of all bones above it, together.",
                TermEdges::poses);
    }

    private static void scenes(Sentences doc) {
        doc.terms("Scenes are numbered from 0, at most 8;", () -> {
            new Run().dueEach("scene(1)", 0, 1, 2, 3, 4, 5, 6, 7).refused(STATE, "scene(1)").due(1, "needs(7)");
        });
        doc.terms("a scene has frames, numbered from 0, each of which shows a frame of its own number at first", () -> {
            new Run("scene(4)").dueEach("ofFrame(0, #, 0)", 0, 1, 2, 3, INDEX).refusedIndex("ofFrame(0, #, 0)", 4);
        });
        doc.terms("those behind them get lower numbers, but show what they showed", TermEdges::cutShows);
        doc.terms("and are rendered as they were", TermEdges::cutRendered);
        doc.terms("Assets are cast in a scene, each once at most", TermEdges::castOnce);
        doc.terms("from a shown frame on up to another one, with both", TermEdges::castWithBoth);
        doc.terms("PINNED to a version, or following the latest one", TermEdges::pinnedOrFollowing);
        doc.terms("all bones of the assets are seen that are cast there at what it shows",
                TermEdges::seenByWhatIsShown);
        doc.terms("by the version that is pinned, or the latest one;", TermEdges::seenByVersion);
        doc.terms("of one that follows and has no version, none;", TermEdges::noVersion);
        doc.terms("with the poses at what it shows", TermEdges::posesByWhatIsShown);
    }

    private static void notes(Sentences doc) {
        doc.terms("Notes are numbered from 0, at most 40, each on a frame of a scene;", () -> {
            Run x = new Run("scene(3)", "scene(3)").dueEach("note(1, #)", 0, 1, 2).tellEach("note(0, 0)", 36);
            x.due(39, "note(0, 2)").refused(STATE, "note(0, 0)").dueEach("ofNote(39, #)", 0, 2, 0, 0);
            x.refusedIndex("ofNote(#, 0)", 40);
        });
        doc.terms("a note on a frame that is cut out, settled or not, is carried", TermEdges::carried);
        doc.terms("to the one that has the place of the first one cut then", TermEdges::carriedToThePlace);
        doc.terms("or, without such, to the last one", TermEdges::carriedToTheLast);
    }

    private static void farm(Sentences doc) {
        doc.terms("A frame is rendered by keeping what is seen at it: which bones of which assets, with which poses;",
                TermEdges::keepsWhatIsSeen);
        doc.terms("and the version of each asset that is seen at it.", TermEdges::keepsVersions);
        doc.terms("It needs to be rendered, if it never was", TermEdges::neverRendered);
        doc.terms("or other bones are seen at it than were kept", TermEdges::otherBones);
        doc.terms("or with other poses", TermEdges::otherPoses);
        doc.terms("To render a scene is to render all its frames that need it;", TermEdges::rendersWhatNeedsIt);
        doc.terms("at those that do not, the versions that are seen now are kept, too, which is no rendering.",
                TermEdges::keptWithoutRendering);
        doc.terms("A scene mixes an asset that follows in it", TermEdges::mixesWhatFollows);
        doc.terms("if its version is kept at two rendered frames as unlike ones", TermEdges::mixesUnlikeOnes);
    }

    private static void manyCalls() {
        Run x = new Run().tellEach("asset()", 8).tellEach("scene(40)", 8);
        for (int i = 0; i < 8; i++) {
            x.tellEach("bone(" + i + ", NONE)", 10).tellEach("publish(" + i + ")", 12);
        }
        x.tellEach("cast(0, #, NONE, 0, 39)", 8).tellEach("cast(7, #, NONE, 0, 39)", 8);
        int turns = Run.CALLS - 1 - x.made();
        x.tellEach("renderOne(7, 39)", turns).due(turns, "count(5)");
        Check.due("made so many calls", Run.CALLS, x::made);
        Run keys = new Run("asset()", "bone(0, NONE)").tellEach("key(0, 0, 50, #, HOLD)", Run.CALLS - 3);
        keys.due(Run.CALLS - 4, "pose(0, NONE, 0, 0)");
        Check.due("made so many calls", Run.CALLS, keys::made);
    }

    /** Two assets that are seen, one without a bone, two scenes, notes, renderings, and a cut. */
    private static Run full() {
        Run x = new Run("asset()", "bone(0, NONE)", "bone(0, 0)", "key(0, 0, 0, 0, EVEN)", "key(0, 0, 10, 10, HOLD)");
        x.tell("key(0, 1, 3, -5, SLOW)", "key(0, 1, 8, 7, HOLD)", "publish(0)", "asset()", "bone(1, NONE)",
                "publish(1)");
        x.tell("asset()", "scene(8)", "cast(0, 0, NONE, 0, 5)", "cast(0, 1, 0, 3, 39)", "cast(0, 2, NONE, 0, 39)");
        x.tell("note(0, 1)", "note(0, 3)", "note(0, 6)", "settle(1)", "render(0)", "cut(0, 2, 2)");
        x.tell("key(0, 0, 5, 50, SLOW)", "publish(0)", "publish(1)", "renderOne(0, 1)", "scene(3)", "note(1, 2)");
        return x.tell("cast(1, 0, 0, 0, 39)", "unkey(0, 0, 10)", "bone(1, NONE)", "renderOne(1, 0)");
    }

    private static void asking() {
        Run x = full();
        Run.unchanged("asking", x.look(200), x.look(200));
        Run asked = full().tell("poseAnew(0, 0, 1, 9)", "poseAnew(0, NONE, 1, 9)", "pose(0, 1, 1, 5)", "mixes(0)");
        asked.tell("needs(0)", "ofFrame(0, 2, 2)", "ofFrame(1, 0, 3)", "kept(0, 0, 0)", "ofNote(1, 1)", "count(4)");
        Run.unchanged("asking one by one", full().look(300), asked.look(300));
        Run late = full();
        late.look(100);
        late.tell("publish(0)", "render(0)");
        Run early = full().tell("publish(0)", "render(0)");
        Run.unchanged("asking ahead of a rendering", early.look(300), late.look(300));
        // A version that looks like the kept one: asking what needs to be rendered does not keep it.
        Run like = two().tell("cast(0, 0, NONE, 0, 1)", "render(0)", "publish(0)").due(0, "needs(0)")
                .due(0, "count(4)");
        like.due(0, "mixes(0)").due(0, "ofFrame(0, 0, 2)").due(1, "ofFrame(0, 1, 3)").pose(0, "0, 1, 0, 0");
        like.dueEach("kept(0, #, 0)", 0, 0).dueEach("kept(0, #, 0)", 0, 0).dueEach("ofFrame(0, #, 5)", 1, 1);
    }

    private static void roundedDown() {
        Run x = new Run("asset()", "bone(0, NONE)", "key(0, 0, 0, 0, EVEN)");
        x.tell("key(0, 0, 3, 1, HOLD)").pose(0, "0, NONE, 0, 1").pose(0, "0, NONE, 0, 2").pose(1, "0, NONE, 0, 3");
        x.tell("key(0, 0, 3, -1, HOLD)").pose(-1, "0, NONE, 0, 1").pose(-1, "0, NONE, 0, 2").pose(-1, "0, NONE, 0, 3");
        x.tell("key(0, 0, 3, -3, HOLD)").pose(-1, "0, NONE, 0, 1").pose(-2, "0, NONE, 0, 2");
        x.tell("key(0, 0, 3, -4, HOLD)").pose(-2, "0, NONE, 0, 1").pose(-3, "0, NONE, 0, 2");
        x.tell("key(0, 0, 0, 10, EVEN)", "key(0, 0, 3, 6, HOLD)").pose(8, "0, NONE, 0, 1").pose(7, "0, NONE, 0, 2");
        x.tell("key(0, 0, 0, -10, EVEN)", "key(0, 0, 3, -6, HOLD)").pose(-9, "0, NONE, 0, 1").pose(-8, "0, NONE, 0, 2");
        Run y = new Run("asset()", "bone(0, NONE)", "key(0, 0, 0, 0, SLOW)");
        y.tell("key(0, 0, 3, 8, HOLD)").pose(0, "0, NONE, 0, 1").pose(3, "0, NONE, 0, 2");
        y.tell("key(0, 0, 3, -1, HOLD)").pose(-1, "0, NONE, 0, 1").pose(-1, "0, NONE, 0, 2");
        y.tell("key(0, 0, 3, -9, HOLD)").pose(-1, "0, NONE, 0, 1").pose(-4, "0, NONE, 0, 2");
        y.tell("key(0, 0, 0, 5, SLOW)", "key(0, 0, 3, -5, HOLD)").pose(3, "0, NONE, 0, 1").pose(0, "0, NONE, 0, 2");
        // The same at frames that a scene shows, by a version.
        x.tell("publish(0)").pose(-9, "0, 0, 0, 1").pose(-8, "0, 0, 0, 2");
        y.tell("publish(0)").pose(3, "0, 0, 0, 1").pose(0, "0, 0, 0, 2");
    }

    private static void versionsNeverChange() {
        Run x = new Run("asset()", "bone(0, NONE)", "bone(0, 0)", "key(0, 0, 10, 5, EVEN)", "key(0, 1, 20, 7, HOLD)");
        x.dueEach("publish(0)", 0, 1, 2, 3, 4, 5, 6, 7, 8, 9, 10)
                .tell("key(0, 0, 10, -5, SLOW)", "key(0, 0, 50, 99, HOLD)");
        x.tell("unkey(0, 1, 20)", "bone(0, 1)", "key(0, 2, 0, 300, HOLD)").due(11, "publish(0)");
        x.refused(STATE, "publish(0)").tell("unkey(0, 0, 10)", "unkey(0, 0, 50)", "unkey(0, 2, 0)");
        x.pose(5, "0, 0, 0, 0").pose(12, "0, 0, 1, 99").pose(INDEX, "0, 0, 2, 0").pose(12, "0, 10, 1, 39");
        x.pose(-5, "0, 11, 0, 0").pose(99, "0, 11, 1, 99").pose(295, "0, 11, 2, 0").pose(INDEX, "0, 11, 3, 0");
        x.tell("scene(1)", "cast(0, 0, 0, 0, 0)").due(2, "ofFrame(0, 0, 3)").tell("cast(0, 0, 11, 0, 0)");
        x.due(3, "ofFrame(0, 0, 3)");
    }

    private static void draftStays() {
        Run x = new Run("asset()", "bone(0, NONE)", "key(0, 0, 10, 5, EVEN)", "key(0, 0, 20, 15, HOLD)", "publish(0)");
        x.due(1, "ofAsset(0, 0)").pose(10, "0, NONE, 0, 15").due(2, "key(0, 0, 20, 25, HOLD)")
                .pose(15, "0, NONE, 0, 15");
        x.due(true, "unkey(0, 0, 10)").pose(25, "0, NONE, 0, 15").due(1, "bone(0, 0)").due(1, "publish(0)");
        x.due(2, "key(0, 0, 0, 1, HOLD)").pose(1, "0, NONE, 1, 19").pose(25, "0, 1, 1, 19").pose(10, "0, 0, 0, 15");
    }

    private static void noKeys() {
        Run x = new Run("asset()", "bone(0, NONE)").pose(0, "0, NONE, 0, 0").pose(0, "0, NONE, 0, 99")
                .tell("publish(0)");
        x.pose(0, "0, 0, 0, 0").pose(0, "0, 0, 0, 39").pose(0, "0, 0, 0, 40").pose(0, "0, 0, 0, 99");
        x.tell("key(0, 0, 50, 9, SLOW)", "unkey(0, 0, 50)").pose(0, "0, NONE, 0, 50").pose(0, "0, NONE, 0, 99");
        x.tell("bone(0, 0)", "key(0, 0, 0, 4, HOLD)").pose(4, "0, NONE, 1, 50");
    }

    private static void upToTheFirst() {
        Run x = new Run("asset()", "bone(0, NONE)", "key(0, 0, 99, -7, SLOW)");
        x.pose(-7, "0, NONE, 0, 0").pose(-7, "0, NONE, 0, 98").pose(-7, "0, NONE, 0, 99");
        x.tell("key(0, 0, 50, 30, EVEN)").pose(30, "0, NONE, 0, 0").pose(30, "0, NONE, 0, 49")
                .pose(30, "0, NONE, 0, 50");
        x.pose(29, "0, NONE, 0, 51").tell("key(0, 0, 0, 8, EVEN)").pose(8, "0, NONE, 0, 0").pose(8, "0, NONE, 0, 1");
        x.tell("key(0, 0, 1, 100, HOLD)").pose(8, "0, NONE, 0, 0").pose(100, "0, NONE, 0, 1");
    }

    private static void fromTheLast() {
        Run x = new Run("asset()", "bone(0, NONE)", "key(0, 0, 0, -7, SLOW)").pose(-7, "0, NONE, 0, 0");
        x.pose(-7, "0, NONE, 0, 1").pose(-7, "0, NONE, 0, 99");
        x.tell("key(0, 0, 98, 90, EVEN)").pose(90, "0, NONE, 0, 98").pose(90, "0, NONE, 0, 99");
        x.tell("key(0, 0, 99, 40, SLOW)").pose(90, "0, NONE, 0, 98").pose(40, "0, NONE, 0, 99").tell("publish(0)");
        x.pose(40, "0, 0, 0, 99").pose(90, "0, 0, 0, 98");
    }

    private static void betweenKeys() {
        Run x = new Run("asset()", "bone(0, NONE)", "key(0, 0, 10, 0, EVEN)", "key(0, 0, 20, 100, EVEN)");
        x.tell("key(0, 0, 21, 300, EVEN)", "key(0, 0, 31, 0, EVEN)");
        x.pose(0, "0, NONE, 0, 10").pose(10, "0, NONE, 0, 11").pose(90, "0, NONE, 0, 19").pose(100, "0, NONE, 0, 20");
        x.pose(300, "0, NONE, 0, 21").pose(270, "0, NONE, 0, 22").pose(30, "0, NONE, 0, 30").pose(0, "0, NONE, 0, 31");
        Run y = new Run("asset()", "bone(0, NONE)");
        for (int i = 0; i < 12; i++) {
            y.tell("key(0, 0, " + 9 * i + ", " + 90 * (i % 2) + ", EVEN)");
        }
        y.pose(10, "0, NONE, 0, 1").pose(80, "0, NONE, 0, 8").pose(90, "0, NONE, 0, 9").pose(80, "0, NONE, 0, 10");
        y.pose(0, "0, NONE, 0, 90").pose(10, "0, NONE, 0, 91").pose(80, "0, NONE, 0, 98").pose(90, "0, NONE, 0, 99");
    }

    private static void hold() {
        Run x = new Run("asset()", "bone(0, NONE)", "key(0, 0, 0, -999, HOLD)", "key(0, 0, 99, 999, HOLD)");
        x.pose(-999, "0, NONE, 0, 0").pose(-999, "0, NONE, 0, 1").pose(-999, "0, NONE, 0, 98")
                .pose(999, "0, NONE, 0, 99");
    }

    private static void even() {
        Run x = new Run("asset()", "bone(0, NONE)", "key(0, 0, 0, -999, EVEN)", "key(0, 0, 99, 999, EVEN)");
        x.pose(-999, "0, NONE, 0, 0").pose(-979, "0, NONE, 0, 1").pose(978, "0, NONE, 0, 98")
                .pose(999, "0, NONE, 0, 99");
        x.tell("key(0, 0, 0, 999, EVEN)", "key(0, 0, 99, -999, EVEN)");
        x.pose(978, "0, NONE, 0, 1").pose(-979, "0, NONE, 0, 98").pose(-999, "0, NONE, 0, 99");
        x.tell("key(0, 0, 50, 7, EVEN)", "key(0, 0, 51, 9, EVEN)").pose(7, "0, NONE, 0, 50").pose(9, "0, NONE, 0, 51");
    }

    private static void slow() {
        Run x = new Run("asset()", "bone(0, NONE)", "key(0, 0, 0, -999, SLOW)", "key(0, 0, 99, 999, SLOW)");
        x.pose(-999, "0, NONE, 0, 0").pose(-999, "0, NONE, 0, 1").pose(958, "0, NONE, 0, 98")
                .pose(999, "0, NONE, 0, 99");
        x.tell("key(0, 0, 0, 999, SLOW)", "key(0, 0, 99, -999, SLOW)");
        x.pose(998, "0, NONE, 0, 1").pose(-959, "0, NONE, 0, 98").pose(-999, "0, NONE, 0, 99");
        x.tell("key(0, 0, 50, 7, SLOW)", "key(0, 0, 51, 9, SLOW)").pose(7, "0, NONE, 0, 50").pose(9, "0, NONE, 0, 51");
        x.tell("key(0, 0, 55, 25, SLOW)").pose(10, "0, NONE, 0, 52").pose(18, "0, NONE, 0, 54");
    }

    private static void firstCounts() {
        Run x = new Run("asset()", "bone(0, NONE)", "key(0, 0, 0, 0, HOLD)", "key(0, 0, 10, 100, EVEN)");
        x.tell("key(0, 0, 20, 200, SLOW)", "key(0, 0, 30, 300, HOLD)", "key(0, 0, 40, 0, EVEN)");
        x.pose(0, "0, NONE, 0, 9").pose(190, "0, NONE, 0, 19").pose(201, "0, NONE, 0, 21").pose(281, "0, NONE, 0, 29");
        x.pose(300, "0, NONE, 0, 39").pose(0, "0, NONE, 0, 41");
    }

    private static void poses() {
        Run x = new Run("asset()", "bone(0, NONE)", "bone(0, 0)", "bone(0, 1)", "bone(0, 1)", "bone(0, NONE)");
        x.tell("key(0, 0, 0, 1, HOLD)", "key(0, 1, 0, 20, EVEN)", "key(0, 1, 10, 40, HOLD)", "key(0, 2, 0, 300, HOLD)");
        x.tell("key(0, 3, 50, -500, HOLD)", "publish(0)");
        for (String version : new String[] {"NONE", "0"}) {
            x.pose(1, "0, " + version + ", 0, 5").pose(31, "0, " + version + ", 1, 5");
            x.pose(331, "0, " + version + ", 2, 5").pose(-469, "0, " + version + ", 3, 5");
            x.pose(0, "0, " + version + ", 4, 5");
        }
        Run deep = new Run("asset()", "bone(0, NONE)").tellEach("bone(0, #)", 9).tellEach("key(0, #, 7, #, HOLD)", 10);
        deep.dueEach("pose(0, NONE, #, 7)", 0, 1, 3, 6, 10, 15, 21, 28, 36, 45);
        deep.dueEach("poseAnew(0, NONE, #, 7)", 0, 1, 3, 6, 10, 15, 21, 28, 36, 45);
    }

    private static void cutShows() {
        Run x = new Run("scene(6)", "cut(0, 1, 2)").dueEach("ofFrame(0, #, 0)", 0, 3, 4, 5, INDEX).tell("cut(0, 2, 1)");
        x.dueEach("ofFrame(0, #, 0)", 0, 3, 5, INDEX).tell("cut(0, 0, 1)").dueEach("ofFrame(0, #, 0)", 3, 5, INDEX);
        x.tell("cut(0, 1, 1)").dueEach("ofFrame(0, #, 0)", 3, INDEX);
    }

    private static void cutRendered() {
        Run x = new Run("asset()", "bone(0, NONE)", "publish(0)", "scene(5)", "cast(0, 0, NONE, 2, 3)",
                "renderOne(0, 2)");
        x.tell("renderOne(0, 2)", "publish(0)", "renderOne(0, 3)", "cut(0, 0, 2)").dueEach("ofFrame(0, #, 5)", 2, 1, 0);
        x.dueEach("ofFrame(0, #, 1)", 1, 1, 0).dueEach("ofFrame(0, #, 2)", 0, 0, 1).dueEach("kept(0, #, 0)", 0, 1, -1);
        x.due(1, "mixes(0)").due(1, "needs(0)").due(1, "render(0)").tell("cut(0, 0, 1)")
                .dueEach("kept(0, #, 0)", 1, -1);
    }

    private static void castOnce() {
        Run x = new Run("asset()", "bone(0, NONE)", "publish(0)", "scene(3)", "scene(3)").due(1, "cast(0, 0, 0, 0, 0)");
        x.due(1, "cast(0, 0, NONE, 2, 2)").dueEach("ofFrame(0, #, 3)", 0, 0, 1).due(1, "ofAsset(0, 2)");
        x.due(1, "cast(1, 0, 0, 0, 2)").dueEach("ofFrame(0, #, 3)", 0, 0, 1).due(2, "ofAsset(0, 2)");
    }

    private static void castWithBoth() {
        Run x = new Run("asset()", "bone(0, NONE)", "publish(0)", "scene(40)").tell("cast(0, 0, 0, 10, 20)");
        x.due(0, "ofFrame(0, 9, 3)").due(1, "ofFrame(0, 10, 3)").due(1, "ofFrame(0, 20, 3)")
                .due(0, "ofFrame(0, 21, 3)");
        x.tell("cast(0, 0, 0, 0, 0)").due(1, "ofFrame(0, 0, 3)").due(0, "ofFrame(0, 1, 3)");
        x.tell("cast(0, 0, 0, 39, 39)").due(0, "ofFrame(0, 38, 3)").due(1, "ofFrame(0, 39, 3)");
    }

    private static void pinnedOrFollowing() {
        Run x = new Run("asset()", "bone(0, NONE)", "publish(0)", "scene(1)", "scene(1)", "cast(0, 0, 0, 0, 0)");
        x.tell("cast(1, 0, NONE, 0, 0)", "bone(0, 0)", "publish(0)").due(1, "ofFrame(0, 0, 3)")
                .due(2, "ofFrame(1, 0, 3)");
        x.tell("render(0)", "render(1)").due(0, "kept(0, 0, 0)").due(1, "kept(1, 0, 0)")
                .tell("bone(0, 0)", "publish(0)");
        x.due(0, "needs(0)").due(1, "needs(1)").tell("cast(0, 0, NONE, 0, 0)", "cast(1, 0, 1, 0, 0)");
        x.due(3, "ofFrame(0, 0, 3)").due(2, "ofFrame(1, 0, 3)").due(1, "needs(0)").due(0, "needs(1)");
    }

    private static void seenByWhatIsShown() {
        Run x = new Run("asset()", "asset()", "bone(0, NONE)", "bone(1, NONE)", "bone(1, 0)", "publish(0)",
                "publish(1)");
        x.tell("scene(5)", "cast(0, 0, 0, 1, 3)", "cast(0, 1, 0, 3, 4)").dueEach("ofFrame(0, #, 3)", 0, 1, 1, 3, 2);
        x.tell("cut(0, 0, 2)").dueEach("ofFrame(0, #, 3)", 1, 3, 2).tell("cut(0, 1, 1)")
                .dueEach("ofFrame(0, #, 3)", 1, 2);
        x.tell("cast(0, 0, 0, 4, 39)").dueEach("ofFrame(0, #, 3)", 0, 3);
    }

    private static void seenByVersion() {
        Run x = new Run("asset()", "scene(1)", "scene(1)", "cast(1, 0, NONE, 0, 0)");
        for (int i = 0; i < 10; i++) {
            x.tell("bone(0, NONE)").due(i, "ofFrame(1, 0, 3)").tell("publish(0)", "cast(0, 0, 0, 0, 0)");
            x.due(1, "ofFrame(0, 0, 3)").due(i + 1, "ofFrame(1, 0, 3)").tell("cast(0, 0, " + i + ", 0, 0)");
            x.due(i + 1, "ofFrame(0, 0, 3)");
        }
    }

    private static void noVersion() {
        Run x = new Run("asset()", "bone(0, NONE)", "key(0, 0, 0, 5, HOLD)", "scene(2)", "cast(0, 0, NONE, 0, 39)");
        x.dueEach("ofFrame(0, #, 3)", 0, 0).due(2, "render(0)").dueEach("kept(0, #, 0)", -1, -1).due(0, "mixes(0)");
        x.due(0, "needs(0)").tell("publish(0)").dueEach("ofFrame(0, #, 3)", 1, 1).due(2, "needs(0)");
        x.tell("renderOne(0, 0)").dueEach("kept(0, #, 0)", 0, -1).due(0, "mixes(0)");
    }

    private static void posesByWhatIsShown() {
        Run x = new Run("asset()", "bone(0, NONE)", "key(0, 0, 0, 0, EVEN)", "key(0, 0, 39, 39, EVEN)", "publish(0)");
        x.tell("scene(40)", "cast(0, 0, NONE, 0, 39)", "render(0)", "cut(0, 0, 10)", "cut(0, 20, 9)")
                .due(0, "needs(0)");
        // From frame 39 on another pose: the scene's last frame, now 20, shows that one.
        x.tell("key(0, 0, 38, 38, EVEN)", "key(0, 0, 39, 40, HOLD)", "publish(0)").due(1, "needs(0)");
        x.due(1, "ofFrame(0, 20, 2)").due(39, "ofFrame(0, 20, 0)").due(0, "ofFrame(0, 19, 2)").due(1, "render(0)");
        x.tell("key(0, 0, 20, 0, EVEN)", "publish(0)").due(20, "needs(0)").due(0, "ofFrame(0, 20, 2)");
    }

    private static void carried() {
        Run x = new Run("scene(6)", "scene(6)", "note(0, 1)", "note(0, 2)", "note(0, 3)", "note(0, 0)", "note(1, 2)");
        x.tell("settle(0)", "cut(0, 1, 2)").dueEach("ofNote(#, 3)", 1, 1, 0, 0, 0)
                .dueEach("ofNote(#, 1)", 1, 1, 1, 0, 2);
        x.dueEach("ofNote(#, 2)", 1, 0, 0, 0, 0).due(2, "ofFrame(0, 1, 4)").tell("cut(0, 1, 1)");
        x.dueEach("ofNote(#, 3)", 2, 2, 1, 0, 0).dueEach("ofNote(#, 1)", 1, 1, 1, 0, 2).due(4, "count(6)");
    }

    private static void carriedToThePlace() {
        Run x = new Run("scene(6)").tellEach("note(0, #)", 6).tell("cut(0, 0, 2)");
        x.dueEach("ofNote(#, 1)", 0, 0, 0, 1, 2, 3).dueEach("ofNote(#, 3)", 1, 1, 0, 0, 0, 0).tell("cut(0, 1, 2)");
        x.dueEach("ofNote(#, 1)", 0, 0, 0, 1, 1, 1).dueEach("ofNote(#, 3)", 1, 1, 0, 1, 1, 0).tell("cut(0, 0, 1)");
        x.dueEach("ofNote(#, 1)", 0, 0, 0, 0, 0, 0).dueEach("ofNote(#, 3)", 2, 2, 1, 1, 1, 0);
        x.due(6, "ofFrame(0, 0, 4)");
    }

    private static void carriedToTheLast() {
        Run x = new Run("scene(6)").tellEach("note(0, #)", 6).tell("cut(0, 4, 2)");
        x.dueEach("ofNote(#, 1)", 0, 1, 2, 3, 3, 3).dueEach("ofNote(#, 3)", 0, 0, 0, 0, 1, 1).tell("cut(0, 3, 1)");
        x.dueEach("ofNote(#, 1)", 0, 1, 2, 2, 2, 2).dueEach("ofNote(#, 3)", 0, 0, 0, 1, 2, 2).tell("cut(0, 1, 2)");
        x.dueEach("ofNote(#, 1)", 0, 0, 0, 0, 0, 0).dueEach("ofNote(#, 3)", 0, 1, 1, 2, 3, 3);
        Run full = new Run("scene(40)").tellEach("note(0, #)", 40).tell("cut(0, 1, 39)").due(40, "ofFrame(0, 0, 4)");
        full.due(0, "ofNote(0, 3)").due(1, "ofNote(1, 3)").due(1, "ofNote(39, 3)").due(0, "ofNote(39, 1)");
    }

    /** Two assets of one bone each with pose 0, both with one version, and a scene of two frames. */
    private static Run two() {
        return new Run("asset()", "asset()", "bone(0, NONE)", "bone(1, NONE)", "publish(0)", "publish(1)", "scene(2)");
    }

    private static void keepsWhatIsSeen() {
        Run x = two().tell("cast(0, 0, NONE, 0, 1)", "render(0)").due(0, "needs(0)");
        x.tell("cast(0, 1, NONE, 1, 1)").dueEach("ofFrame(0, #, 2)", 0, 1).tell("renderOne(0, 1)").due(0, "needs(0)");
        x.tell("cast(0, 1, NONE, 0, 0)").dueEach("ofFrame(0, #, 2)", 1, 1).tell("cast(0, 1, NONE, 1, 1)")
                .due(0, "needs(0)");
        x.tell("key(0, 0, 0, 1, HOLD)", "publish(0)").due(2, "needs(0)").tell("renderOne(0, 0)");
        x.dueEach("ofFrame(0, #, 2)", 0, 1).tell("cast(0, 0, 0, 0, 1)").dueEach("ofFrame(0, #, 2)", 1, 0);
    }

    private static void keepsVersions() {
        Run x = two().tell("publish(1)", "cast(0, 0, NONE, 0, 1)", "cast(0, 1, 0, 1, 1)", "render(0)");
        x.dueEach("kept(0, 0, #)", 0, -1).dueEach("kept(0, 1, #)", 0, 0).tell("publish(0)", "renderOne(0, 0)");
        x.dueEach("kept(0, 0, #)", 1, -1).dueEach("kept(0, 1, #)", 0, 0).tell("cast(0, 1, NONE, 0, 0)", "render(0)");
        x.dueEach("kept(0, 0, #)", 1, 1).dueEach("kept(0, 1, #)", 1, -1);
    }

    private static void neverRendered() {
        Run x = new Run("scene(40)").due(40, "needs(0)").tell("renderOne(0, 39)").due(39, "needs(0)");
        x.due(0, "ofFrame(0, 39, 2)").due(39, "render(0)").due(0, "needs(0)");
        Run y = two().due(2, "needs(0)").tell("cast(0, 0, NONE, 0, 0)").due(2, "needs(0)").tell("render(0)")
                .due(0, "needs(0)");
        y.tell("scene(1)").due(1, "needs(1)").tell("cut(0, 0, 1)").due(0, "needs(0)");
    }

    private static void otherBones() {
        Run more = two().tell("cast(0, 0, NONE, 0, 1)", "render(0)", "bone(0, 0)").due(0, "needs(0)");
        more.tell("publish(0)").due(2, "needs(0)").tell("render(0)", "cast(0, 0, 0, 0, 1)").due(2, "needs(0)");
        Run none = two().tell("cast(0, 0, NONE, 0, 1)", "render(0)", "cast(0, 0, NONE, 1, 1)").due(1, "needs(0)");
        none.tell("cast(0, 0, NONE, 2, 2)").due(2, "needs(0)").due(2, "render(0)").due(0, "needs(0)");
        Run others = two().tell("cast(0, 0, NONE, 0, 0)", "cast(0, 1, NONE, 1, 1)", "render(0)");
        others.tell("cast(0, 0, NONE, 1, 1)").due(2, "needs(0)").tell("cast(0, 1, NONE, 0, 0)").due(2, "needs(0)");
        Run first = two().tell("render(0)").due(0, "needs(0)").tell("cast(0, 1, NONE, 1, 1)").due(1, "needs(0)");
        Run full = new Run("scene(1)").tellEach("asset()", 8).tellEach("bone(7, NONE)", 9).tell("publish(7)");
        full.tell("cast(0, 7, NONE, 0, 0)", "render(0)", "bone(7, NONE)", "publish(7)").due(1, "needs(0)");
    }

    private static void otherPoses() {
        Run x = two().tell("key(0, 0, 1, 0, HOLD)", "publish(0)", "cast(0, 0, NONE, 0, 1)", "render(0)");
        x.tell("key(0, 0, 2, 9, HOLD)", "publish(0)").due(0, "needs(0)")
                .tell("key(0, 0, 1, 1, HOLD)", "key(0, 0, 0, 0, HOLD)");
        x.due(0, "needs(0)").tell("publish(0)").dueEach("ofFrame(0, #, 2)", 0, 1).tell("key(0, 0, 1, 0, HOLD)");
        x.due(1, "needs(0)").tell("publish(0)").due(0, "needs(0)");
        Run last = new Run("asset()").tellEach("bone(0, NONE)", 10)
                .tell("publish(0)", "scene(40)", "cast(0, 0, NONE, 0, 39)");
        last.tell("render(0)", "key(0, 9, 38, 0, HOLD)", "key(0, 9, 39, 1, HOLD)", "publish(0)").due(1, "needs(0)");
        last.due(1, "ofFrame(0, 39, 2)").tell("key(0, 9, 39, -1, HOLD)", "publish(0)", "render(0)").due(0, "needs(0)");
        Run swapped = new Run("asset()", "bone(0, NONE)", "bone(0, NONE)", "key(0, 0, 0, 3, HOLD)", "publish(0)",
                "scene(1)");
        swapped.tell("cast(0, 0, NONE, 0, 0)", "render(0)", "unkey(0, 0, 0)", "key(0, 1, 0, 3, HOLD)", "publish(0)");
        swapped.due(1, "needs(0)");
    }

    private static void rendersWhatNeedsIt() {
        Run x = two().tell("cast(0, 0, NONE, 1, 1)", "renderOne(0, 0)").due(1, "render(0)");
        x.dueEach("ofFrame(0, #, 5)", 1, 1).due(0, "render(0)").tell("key(0, 0, 0, 2, HOLD)", "publish(0)");
        x.due(1, "render(0)").dueEach("ofFrame(0, #, 5)", 1, 2).tell("cast(0, 0, NONE, 0, 0)").due(2, "render(0)");
        x.dueEach("ofFrame(0, #, 5)", 2, 3).due(0, "needs(0)").due(5, "count(5)");
    }

    private static void keptWithoutRendering() {
        Run x = two().tell("cast(0, 0, NONE, 0, 1)", "cast(0, 1, 0, 0, 1)", "render(0)", "publish(0)", "publish(1)");
        x.due(0, "render(0)").dueEach("kept(0, #, 0)", 1, 1).dueEach("kept(0, #, 1)", 0, 0).due(2, "count(5)");
        x.dueEach("ofFrame(0, #, 5)", 1, 1).tell("cast(0, 1, 1, 0, 1)").due(0, "render(0)")
                .dueEach("kept(0, #, 1)", 1, 1);
        x.tell("key(0, 0, 0, 0, HOLD)", "key(0, 0, 1, 5, HOLD)", "publish(0)").due(1, "render(0)");
        x.dueEach("kept(0, #, 0)", 2, 2).dueEach("ofFrame(0, #, 5)", 1, 2).due(3, "count(5)");
    }

    private static void mixesWhatFollows() {
        Run x = two().tell("cast(0, 0, NONE, 0, 1)", "render(0)", "publish(0)", "renderOne(0, 1)").due(1, "mixes(0)");
        x.tell("cast(0, 0, 1, 0, 1)").due(0, "mixes(0)").tell("cast(0, 0, NONE, 0, 1)").due(1, "mixes(0)");
        Run pinned = two()
                .tell("cast(0, 0, 0, 0, 1)", "render(0)", "publish(0)", "cast(0, 0, 1, 0, 1)", "renderOne(0, 1)");
        pinned.due(0, "mixes(0)").tell("cast(0, 0, NONE, 5, 5)").due(1, "mixes(0)");
    }

    private static void mixesUnlikeOnes() {
        Run x = two().tell("cast(0, 0, NONE, 0, 1)").due(0, "mixes(0)").tell("renderOne(0, 0)").due(0, "mixes(0)");
        x.tell("publish(0)", "renderOne(0, 1)").due(1, "mixes(0)").tell("renderOne(0, 0)").due(0, "mixes(0)");
        Run unseen = two().tell("cast(0, 0, NONE, 0, 0)", "render(0)").due(0, "mixes(0)")
                .tell("cast(0, 0, NONE, 1, 1)");
        unseen.tell("publish(0)", "renderOne(0, 1)").due(1, "mixes(0)").tell("renderOne(0, 0)").due(0, "mixes(0)");
        Run cut = two().tell("cast(0, 0, NONE, 0, 1)", "render(0)", "publish(0)", "renderOne(0, 0)").due(1, "mixes(0)");
        cut.tell("cut(0, 1, 1)").due(0, "mixes(0)");
        Run ends = new Run("asset()", "bone(0, NONE)", "publish(0)", "scene(40)", "cast(0, 0, NONE, 0, 39)",
                "render(0)");
        ends.tell("publish(0)", "renderOne(0, 39)").due(1, "mixes(0)").tell("cut(0, 1, 38)").due(1, "mixes(0)");
    }

    private static void refusedChangesNothing() {
        full().refused(INDEX, "bone(3, NONE)", "bone(0, 2)", "key(0, 2, 0, 9, HOLD)", "unkey(3, 0, 0)", "publish(3)");
        full().refused(ARGUMENT, "key(0, 0, 0, 1000, HOLD)", "key(0, 0, 100, 9, HOLD)", "key(0, 0, 0, 9, 3)");
        full()
                .refused(ARGUMENT, "unkey(0, 0, 100)", "pose(0, 0, 0, 100)", "poseAnew(0, 0, 0, -1)", "scene(0)",
                        "scene(41)");
        full().refused(STATE, "publish(2)", "cut(0, 0, 6)", "cut(0, 5, 2)", "settle(1)");
        full().refused(INDEX, "pose(0, 2, 0, 0)", "poseAnew(0, 0, 2, 0)", "ofAsset(0, 3)", "cast(2, 0, 0, 0, 0)");
        full()
                .refused(INDEX, "cast(0, 3, NONE, 0, 0)", "cast(0, 0, 2, 0, 0)", "cut(0, 6, 1)", "note(0, 6)",
                        "note(2, 0)");
        full().refused(ARGUMENT, "cast(0, 0, 1, 4, 3)", "cast(1, 1, 0, -1, 3)", "cut(0, 0, 0)", "count(7)");
        full()
                .refused(INDEX, "settle(4)", "ofNote(4, 0)", "ofNote(0, 4)", "render(2)", "renderOne(0, 6)",
                        "renderOne(2, 0)");
        full()
                .refused(INDEX, "needs(2)", "mixes(2)", "ofFrame(0, 6, 0)", "ofFrame(0, 0, 6)", "kept(0, 0, 3)",
                        "kept(1, 3, 0)");
        Run all = full().tellEach("asset()", 5).tellEach("scene(1)", 6).refused(STATE, "asset()", "scene(1)");
        all.tellEach("note(0, 5)", 36).refused(STATE, "note(0, 0)").tellEach("bone(0, 1)", 8)
                .refused(STATE, "bone(0, 0)");
        Run versions = full().tellEach("publish(1)", 10).refused(STATE, "publish(1)")
                .tellEach("key(0, 0, #, 9, SLOW)", 10);
        versions.tell("key(0, 0, 98, 1, HOLD)", "key(0, 0, 99, 1, HOLD)").refused(STATE, "key(0, 0, 50, 9, HOLD)");
    }

    private static void firstNamed() {
        Run x = full().tellEach("bone(0, 1)", 8).tellEach("key(0, 0, #, 9, SLOW)", 10).tellEach("note(0, 5)", 36);
        x.tell("key(0, 0, 98, 1, HOLD)", "key(0, 0, 99, 1, HOLD)").tellEach("scene(1)", 6);
        // An index and a state.
        x.refused(INDEX, "bone(0, 10)", "bone(0, -2)", "note(0, 6)", "note(8, 0)", "key(0, 10, 50, 9, HOLD)");
        x.refused(INDEX, "cut(0, 6, 6)", "cut(0, -1, HIGHEST)", "cut(8, 0, HIGHEST)");
        // An index and an argument.
        x.refused(INDEX, "key(3, 0, 100, 9, HOLD)", "key(0, 10, 0, 1000, HOLD)", "key(0, -1, 0, 0, 3)");
        x.refused(INDEX, "unkey(3, 0, 100)", "unkey(0, 10, -1)", "cut(0, 6, 0)", "cut(8, 0, 0)");
        Run y = full().refused(INDEX, "pose(3, 0, 0, 100)", "pose(0, 2, 0, -1)", "pose(0, 0, 2, 100)");
        y.refused(INDEX, "poseAnew(3, 0, 0, 100)", "poseAnew(0, 2, 0, -1)", "poseAnew(0, 0, 2, 100)");
        y.refused(INDEX, "cast(2, 0, 0, 4, 3)", "cast(0, 3, 0, -1, 3)", "cast(0, 0, 2, 0, 40)",
                "cast(0, 2, 0, 40, 40)");
        // An argument and a state.
        x.refused(ARGUMENT, "scene(0)", "scene(41)", "key(0, 0, 50, 1000, HOLD)", "key(0, 0, 50, 0, 3)");
        x.refused(ARGUMENT, "key(0, 0, 100, 0, HOLD)", "key(0, 0, -1, 0, HOLD)");
    }

    private static void none() {
        Check.due("NONE", -1, () -> PegbarBarn.NONE);
        Run x = new Run("asset()").due(0, "bone(0, NONE)").pose(0, "0, NONE, 0, 0").tell("scene(1)", "render(0)");
        x.due(PegbarBarn.NONE, "kept(0, 0, 0)");
    }

    private static void noneFollows() {
        Run x = new Run("asset()", "scene(1)").due(1, "cast(0, 0, NONE, 0, 0)").due(0, "ofFrame(0, 0, 3)");
        x.tell("bone(0, NONE)", "publish(0)").due(1, "ofFrame(0, 0, 3)").tell("bone(0, NONE)", "publish(0)");
        x.due(2, "ofFrame(0, 0, 3)");
    }

    private static void ways() {
        Check.due("HOLD", 0, () -> PegbarBarn.HOLD);
        Check.due("EVEN", 1, () -> PegbarBarn.EVEN);
        Check.due("SLOW", 2, () -> PegbarBarn.SLOW);
        Run x = new Run("asset()", "bone(0, NONE)", "key(0, 0, 0, 0, 0)", "key(0, 0, 10, 100, 0)")
                .pose(0, "0, NONE, 0, 5");
        x.tell("key(0, 0, 0, 0, 1)").pose(50, "0, NONE, 0, 5").tell("key(0, 0, 0, 0, 2)").pose(25, "0, NONE, 0, 5");
    }
}
