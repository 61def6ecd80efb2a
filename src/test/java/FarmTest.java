/** Promises 16 to 22: what is rendered, what needs it, what is kept, and the counts. */
public final class FarmTest {
    private static final String INDEX = "throws.IndexOutOfBoundsException";
    private static final String ARGUMENT = "throws.IllegalArgumentException";
    private static final int NONE = PegbarBarn.NONE;
    private static final int HOLD = PegbarBarn.HOLD;
    private static final int EVEN = PegbarBarn.EVEN;

    public static void main(String[] args) {
        renderAnEmptyScene();
        renderWhatChanged();
        keptWithoutRendering();
        otherBones();
        sameNumberOfOtherBones();
        renderOne();
        needsAgainAsItWas();
        mixes();
        mixesNotAfterACut();
        mixesByWhatIsKept();
        ofFrame();
        kept();
        count();
        wrong();
        Check.end();
    }

    /** An asset of one bone, 0 at frame 0 to 8 at frame 4, in one version that a scene of 6 frames follows. */
    private static PegbarBarn following() {
        PegbarBarn x = new PegbarBarn();
        x.asset();
        x.bone(0, NONE);
        x.key(0, 0, 0, 0, EVEN);
        x.key(0, 0, 4, 8, EVEN);
        x.publish(0);
        x.scene(6);
        x.cast(0, 0, NONE, 0, 5);
        return x;
    }

    private static void renderAnEmptyScene() {
        PegbarBarn x = new PegbarBarn();
        x.scene(3);
        Check.due("18: never rendered", 3, () -> x.needs(0));
        Check.due("16: with nothing seen", 3, () -> x.render(0));
        Check.due("16: again", 0, () -> x.render(0));
        Check.due("18: rendered", 0, () -> x.needs(0));
        x.asset();
        x.bone(0, NONE);
        x.cast(0, 0, NONE, 0, 1);
        Check.due("18: one that follows without a version", 0, () -> x.needs(0));
        x.publish(0);
        Check.due("18: one that follows with a version", 2, () -> x.needs(0));
        Check.due("16: one that follows with a version", 2, () -> x.render(0));
    }

    private static void renderWhatChanged() {
        PegbarBarn x = following();
        Check.due("16: all", 6, () -> x.render(0));
        x.key(0, 0, 4, 9, EVEN);
        Check.due("18: drafts are not seen", 0, () -> x.needs(0));
        x.publish(0);
        Check.due("18: other poses", 2, () -> x.needs(0));
        Check.due("16: other poses", 2, () -> x.render(0));
        for (int i = 0; i < 6; i++) {
            int frame = i;
            Check.due("16: how often, frame " + frame, i < 4 ? 1 : 2, () -> x.ofFrame(0, frame, 5));
            Check.due("16: kept, frame " + frame, 1, () -> x.kept(0, frame, 0));
        }
        Check.due("22: renderings", 8, () -> x.count(5));
    }

    private static void keptWithoutRendering() {
        PegbarBarn x = following();
        x.render(0);
        x.publish(0);
        Check.due("16: a like version", 0, () -> x.needs(0));
        Check.due("21: kept as it was", 0, () -> x.kept(0, 0, 0));
        Check.due("16: no rendering", 0, () -> x.render(0));
        Check.due("16: but kept", 1, () -> x.kept(0, 0, 0));
        Check.due("16: rendered once", 1, () -> x.ofFrame(0, 0, 5));
        Check.due("22: no rendering", 6, () -> x.count(5));
        x.cast(0, 0, 0, 0, 5);
        Check.due("18: pinned to a like one", 0, () -> x.needs(0));
        x.render(0);
        Check.due("16: kept, pinned", 0, () -> x.kept(0, 5, 0));
    }

    private static void otherBones() {
        PegbarBarn x = following();
        x.render(0);
        x.bone(0, NONE);
        x.publish(0);
        Check.due("18: one more bone, of pose 0", 6, () -> x.needs(0));
        x.render(0);
        x.cast(0, 0, 0, 0, 5);
        Check.due("18: one less", 6, () -> x.needs(0));
        x.render(0);
        x.cast(0, 0, 0, 2, 3);
        Check.due("18: not seen any more", 4, () -> x.needs(0));
        Check.due("16: not seen any more", 4, () -> x.render(0));
        Check.due("21: not seen any more", NONE, () -> x.kept(0, 0, 0));
        Check.due("21: still seen", 0, () -> x.kept(0, 2, 0));
    }

    private static void sameNumberOfOtherBones() {
        PegbarBarn x = new PegbarBarn();
        for (int i = 0; i < 2; i++) {
            x.asset();
            x.bone(i, NONE);
            x.publish(i);
        }
        x.scene(2);
        x.cast(0, 0, 0, 0, 0);
        x.cast(0, 1, 0, 1, 1);
        x.render(0);
        x.cast(0, 0, 0, 1, 1);
        x.cast(0, 1, 0, 0, 0);
        Check.due("18: of another asset", 2, () -> x.needs(0));
        Check.due("18: with as many bones", 1, () -> x.ofFrame(0, 0, 3));
    }

    private static void renderOne() {
        PegbarBarn x = following();
        Check.due("17: never rendered", true, () -> x.renderOne(0, 3));
        Check.due("17: rendered", false, () -> x.renderOne(0, 3));
        Check.due("17: that counts", 2, () -> x.ofFrame(0, 3, 5));
        Check.due("17: the others need it", 5, () -> x.needs(0));
        Check.due("17: not the others", 0, () -> x.ofFrame(0, 2, 5));
        x.publish(0);
        Check.due("17: a like version", false, () -> x.renderOne(0, 3));
        Check.due("17: kept", 1, () -> x.kept(0, 3, 0));
        x.key(0, 0, 0, 1, HOLD);
        x.publish(0);
        Check.due("17: other poses", true, () -> x.renderOne(0, 3));
        Check.due("22: renderings", 4, () -> x.count(5));
    }

    private static void needsAgainAsItWas() {
        PegbarBarn x = following();
        x.render(0);
        x.key(0, 0, 0, 5, HOLD);
        x.publish(0);
        Check.due("18: changed", 4, () -> x.needs(0));
        x.key(0, 0, 0, 0, EVEN);
        x.publish(0);
        Check.due("18: changed back", 0, () -> x.needs(0));
        Check.due("16: changed back", 0, () -> x.render(0));
        Check.due("21: changed back", 2, () -> x.kept(0, 0, 0));
    }

    private static void mixes() {
        PegbarBarn x = following();
        Check.due("19: never rendered", 0, () -> x.mixes(0));
        x.renderOne(0, 0);
        x.publish(0);
        Check.due("19: one rendered frame", 0, () -> x.mixes(0));
        x.renderOne(0, 5);
        Check.due("19: two versions", 1, () -> x.mixes(0));
        x.cast(0, 0, 1, 0, 5);
        Check.due("19: pinned ones do not mix", 0, () -> x.mixes(0));
        x.cast(0, 0, NONE, 0, 5);
        Check.due("19: following again", 1, () -> x.mixes(0));
        x.cast(0, 0, NONE, 5, 5);
        Check.due("19: by what is kept", 1, () -> x.mixes(0));
        x.render(0);
        Check.due("19: not seen is no version", 0, () -> x.mixes(0));
        Check.due("21: not seen", NONE, () -> x.kept(0, 0, 0));
    }

    private static void mixesNotAfterACut() {
        PegbarBarn x = following();
        x.asset();
        x.bone(1, NONE);
        x.publish(1);
        x.cast(0, 1, NONE, 0, 5);
        x.renderOne(0, 0);
        x.publish(0);
        x.publish(1);
        x.renderOne(0, 1);
        x.publish(1);
        x.renderOne(0, 2);
        Check.due("19: both", 2, () -> x.mixes(0));
        x.cut(0, 0, 1);
        Check.due("19: one is cut out", 1, () -> x.mixes(0));
        x.cut(0, 0, 1);
        Check.due("19: two are cut out", 0, () -> x.mixes(0));
    }

    private static void mixesByWhatIsKept() {
        PegbarBarn x = following();
        x.render(0);
        x.publish(0);
        x.renderOne(0, 2);
        Check.due("19: like ones mix", 1, () -> x.mixes(0));
        x.render(0);
        Check.due("19: all kept as the latest", 0, () -> x.mixes(0));
    }

    private static void ofFrame() {
        PegbarBarn x = following();
        x.note(0, 2);
        x.note(0, 2);
        x.note(0, 1);
        x.settle(0);
        x.scene(6);
        x.note(1, 2);
        Object[] fresh = {2, 0, 1, 1, 1, 0};
        for (int i = 0; i < 6; i++) {
            int what = i;
            Check.due("20: fresh, what " + what, fresh[i], () -> x.ofFrame(0, 2, what));
        }
        x.renderOne(0, 2);
        Object[] done = {2, 1, 0, 1, 1, 1};
        for (int i = 0; i < 6; i++) {
            int what = i;
            Check.due("20: rendered, what " + what, done[i], () -> x.ofFrame(0, 2, what));
        }
        x.bone(0, 0);
        x.publish(0);
        Object[] stale = {2, 1, 1, 2, 1, 1};
        for (int i = 0; i < 6; i++) {
            int what = i;
            Check.due("20: stale, what " + what, stale[i], () -> x.ofFrame(0, 2, what));
        }
    }

    private static void kept() {
        PegbarBarn x = following();
        x.asset();
        Check.due("21: not rendered", NONE, () -> x.kept(0, 0, 0));
        x.renderOne(0, 0);
        Check.due("21: rendered", 0, () -> x.kept(0, 0, 0));
        Check.due("21: of another asset", NONE, () -> x.kept(0, 0, 1));
        Check.due("21: of another frame", NONE, () -> x.kept(0, 1, 0));
        x.cast(0, 1, NONE, 0, 0);
        x.renderOne(0, 0);
        Check.due("21: followed without a version", NONE, () -> x.kept(0, 0, 1));
        x.publish(0);
        Check.due("21: as it was kept", 0, () -> x.kept(0, 0, 0));
    }

    private static void count() {
        PegbarBarn x = following();
        x.asset();
        x.bone(1, NONE);
        x.publish(1);
        x.publish(1);
        x.scene(3);
        x.note(0, 0);
        x.note(1, 0);
        x.note(1, 1);
        x.settle(1);
        x.render(1);
        x.renderOne(0, 5);
        int[] want = {2, 3, 2, 9, 5, 4, 2};
        for (int i = 0; i < 7; i++) {
            int what = i;
            Check.due("22: count(" + what + ")", want[i], () -> x.count(what));
        }
        x.cut(0, 5, 1);
        Check.due("22: also of those cut out", 4, () -> x.count(5));
        x.cut(0, 0, 2);
        Check.due("22: without those cut out", 3, () -> x.count(4));
        Check.due("22: frames that are left", 6, () -> x.count(3));
        x.scene(4);
        Check.due("22: those of a new scene, too", 7, () -> x.count(4));
        Check.due("22: what 7", ARGUMENT, () -> x.count(7));
        Check.due("22: what -1", ARGUMENT, () -> x.count(-1));
    }

    private static void wrong() {
        PegbarBarn x = following();
        int[] noScene = {1, -1, Integer.MIN_VALUE, Integer.MAX_VALUE};
        for (int scene : noScene) {
            Check.due("16: no scene", INDEX, () -> x.render(scene));
            Check.due("17: no scene", INDEX, () -> x.renderOne(scene, 0));
            Check.due("18: no scene", INDEX, () -> x.needs(scene));
            Check.due("19: no scene", INDEX, () -> x.mixes(scene));
            Check.due("20: no scene", INDEX, () -> x.ofFrame(scene, 0, 0));
            Check.due("21: no scene", INDEX, () -> x.kept(scene, 0, 0));
        }
        int[] noFrame = {6, -1, 40, Integer.MIN_VALUE, Integer.MAX_VALUE};
        for (int frame : noFrame) {
            Check.due("17: no frame", INDEX, () -> x.renderOne(0, frame));
            Check.due("20: no frame", INDEX, () -> x.ofFrame(0, frame, 0));
            Check.due("21: no frame", INDEX, () -> x.kept(0, frame, 0));
        }
        Check.due("20: what 6", INDEX, () -> x.ofFrame(0, 0, 6));
        Check.due("20: what -1", INDEX, () -> x.ofFrame(0, 0, -1));
        Check.due("21: no asset", INDEX, () -> x.kept(0, 0, 1));
        Check.due("21: no asset -1", INDEX, () -> x.kept(0, 0, -1));
        Check.due("22: nothing was rendered", 0, () -> x.count(5));
        x.cut(0, 5, 1);
        Check.due("17: a frame that was cut is none", INDEX, () -> x.renderOne(0, 5));
    }
}
