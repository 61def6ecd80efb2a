/** Promises 10 to 15: scenes, castings, cuts, notes. */
public final class ScenesTest {
    private static final String INDEX = "throws.IndexOutOfBoundsException";
    private static final String ARGUMENT = "throws.IllegalArgumentException";
    private static final String STATE = "throws.IllegalStateException";
    private static final int NONE = PegbarBarn.NONE;
    private static final int LOW = Integer.MIN_VALUE;
    private static final int HIGH = Integer.MAX_VALUE;

    public static void main(String[] args) {
        scene();
        cast();
        castWrong();
        castInPlace();
        cut();
        cutWrong();
        cutAndCast();
        carry();
        note();
        settle();
        ofNote();
        everyPlaceTaken();
        Check.end();
    }

    private static void shows(PegbarBarn x, int scene, int... shown) {
        for (int i = 0; i < shown.length; i++) {
            int frame = i;
            Check.due("12: frame " + frame + " shows", shown[i], () -> x.ofFrame(scene, frame, 0));
        }
        Check.due("12: no further frame", INDEX, () -> x.ofFrame(scene, shown.length, 0));
    }

    private static void scene() {
        PegbarBarn x = new PegbarBarn();
        Check.due("10: frames 0", ARGUMENT, () -> x.scene(0));
        Check.due("10: frames 41", ARGUMENT, () -> x.scene(41));
        Check.due("10: frames lowest", ARGUMENT, () -> x.scene(LOW));
        Check.due("10: one frame", 0, () -> x.scene(1));
        Check.due("10: forty frames", 1, () -> x.scene(40));
        Check.due("10: the last frame", 39, () -> x.ofFrame(1, 39, 0));
        Check.due("10: none behind it", INDEX, () -> x.ofFrame(1, 40, 0));
        Check.due("10: none behind the first", INDEX, () -> x.ofFrame(0, 1, 0));
        for (int i = 2; i < 8; i++) {
            Check.due("10: scene", i, () -> x.scene(2));
        }
        Check.due("10: the ninth", STATE, () -> x.scene(2));
        Check.due("10: argument ahead of state", ARGUMENT, () -> x.scene(0));
        Check.due("10: eight scenes", 8, () -> x.count(2));
        Check.due("10: their frames", 53, () -> x.count(3));
    }

    private static PegbarBarn withVersion() {
        PegbarBarn x = new PegbarBarn();
        x.asset();
        x.bone(0, NONE);
        x.publish(0);
        x.asset();
        x.scene(6);
        x.scene(6);
        return x;
    }

    private static void cast() {
        PegbarBarn x = withVersion();
        Check.due("11: pinned", 1, () -> x.cast(0, 0, 0, 2, 3));
        Check.due("11: following without a version", 2, () -> x.cast(0, 1, NONE, 0, 39));
        Check.due("11: in another scene", 1, () -> x.cast(1, 1, NONE, 39, 39));
        int[] bones = {0, 0, 1, 1, 0, 0};
        for (int i = 0; i < 6; i++) {
            int frame = i;
            Check.due("11: bones seen at " + frame, bones[i], () -> x.ofFrame(0, frame, 3));
        }
        x.bone(1, NONE);
        x.bone(1, NONE);
        x.publish(1);
        Check.due("11: followed once it has a version", 3, () -> x.ofFrame(0, 2, 3));
        Check.due("11: followed once it has a version, alone", 2, () -> x.ofFrame(0, 5, 3));
    }

    private static void castWrong() {
        PegbarBarn x = withVersion();
        Check.due("11: no scene", INDEX, () -> x.cast(2, 0, NONE, 0, 0));
        Check.due("11: no scene -1", INDEX, () -> x.cast(-1, 0, NONE, 0, 0));
        Check.due("11: no asset", INDEX, () -> x.cast(0, 2, NONE, 0, 0));
        Check.due("11: no asset -1", INDEX, () -> x.cast(0, -1, NONE, 0, 0));
        Check.due("11: no version", INDEX, () -> x.cast(0, 0, 1, 0, 0));
        Check.due("11: no version -2", INDEX, () -> x.cast(0, 0, -2, 0, 0));
        Check.due("11: a version of another", INDEX, () -> x.cast(0, 1, 0, 0, 0));
        Check.due("11: index ahead of argument", INDEX, () -> x.cast(0, 0, 1, 5, 4));
        Check.due("11: from -1", ARGUMENT, () -> x.cast(0, 0, 0, -1, 4));
        Check.due("11: from 40", ARGUMENT, () -> x.cast(0, 0, 0, 40, 40));
        Check.due("11: to 40", ARGUMENT, () -> x.cast(0, 0, 0, 0, 40));
        Check.due("11: to ahead of from", ARGUMENT, () -> x.cast(0, 0, 0, 5, 4));
        Check.due("11: nothing changed", 0, () -> x.ofAsset(0, 2));
        Check.due("11: from 39 to 39", 1, () -> x.cast(0, 0, 0, 39, 39));
    }

    private static void castInPlace() {
        PegbarBarn x = withVersion();
        x.bone(0, NONE);
        x.publish(0);
        x.cast(0, 0, 0, 0, 1);
        Check.due("11: in place", 1, () -> x.cast(0, 0, 1, 1, 2));
        int[] bones = {0, 2, 2, 0};
        for (int i = 0; i < 4; i++) {
            int frame = i;
            Check.due("11: in place, bones at " + frame, bones[i], () -> x.ofFrame(0, frame, 3));
        }
        Check.due("11: wrong, in place", ARGUMENT, () -> x.cast(0, 0, 0, 4, 3));
        Check.due("11: wrong changes nothing", 2, () -> x.ofFrame(0, 1, 3));
    }

    private static void cut() {
        PegbarBarn x = new PegbarBarn();
        x.scene(8);
        x.scene(8);
        Check.due("12: between", 6, () -> x.cut(0, 2, 2));
        shows(x, 0, 0, 1, 4, 5, 6, 7);
        Check.due("12: at the end", 4, () -> x.cut(0, 4, 2));
        shows(x, 0, 0, 1, 4, 5);
        Check.due("12: at the start", 3, () -> x.cut(0, 0, 1));
        shows(x, 0, 1, 4, 5);
        Check.due("12: between again", 2, () -> x.cut(0, 1, 1));
        shows(x, 0, 1, 5);
        shows(x, 1, 0, 1, 2, 3, 4, 5, 6, 7);
        Check.due("12: all but the last", 1, () -> x.cut(1, 0, 7));
        shows(x, 1, 7);
        Check.due("12: frames of all scenes", 3, () -> x.count(3));
    }

    private static void cutWrong() {
        PegbarBarn x = new PegbarBarn();
        x.scene(5);
        Check.due("12: no scene", INDEX, () -> x.cut(1, 0, 1));
        Check.due("12: no scene -1", INDEX, () -> x.cut(-1, 0, 1));
        Check.due("12: no frame", INDEX, () -> x.cut(0, 5, 1));
        Check.due("12: no frame -1", INDEX, () -> x.cut(0, -1, 1));
        Check.due("12: index ahead of argument", INDEX, () -> x.cut(0, 5, 0));
        Check.due("12: many 0", ARGUMENT, () -> x.cut(0, 0, 0));
        Check.due("12: many lowest", ARGUMENT, () -> x.cut(0, 0, LOW));
        Check.due("12: not so many", STATE, () -> x.cut(0, 3, 3));
        Check.due("12: highest", STATE, () -> x.cut(0, 4, HIGH));
        Check.due("12: none left", STATE, () -> x.cut(0, 0, 5));
        shows(x, 0, 0, 1, 2, 3, 4);
        Check.due("12: just so many", 3, () -> x.cut(0, 3, 2));
        shows(x, 0, 0, 1, 2);
        Check.due("12: a frame that was cut is none", INDEX, () -> x.cut(0, 3, 1));
    }

    private static void cutAndCast() {
        PegbarBarn x = withVersion();
        x.cast(0, 0, 0, 4, 5);
        x.renderOne(0, 4);
        x.renderOne(0, 4);
        x.cut(0, 1, 2);
        Check.due("12: cast by what is shown", 0, () -> x.ofFrame(0, 1, 3));
        Check.due("12: cast by what is shown, moved", 1, () -> x.ofFrame(0, 2, 3));
        Check.due("12: rendered as it was", 2, () -> x.ofFrame(0, 2, 5));
        Check.due("12: kept as it was", 0, () -> x.kept(0, 2, 0));
        Check.due("12: needs nothing", 0, () -> x.ofFrame(0, 2, 2));
        Check.due("12: the next one needs it", 1, () -> x.ofFrame(0, 3, 2));
        Check.due("12: what is cast is no number", 2, () -> x.cut(0, 0, 2));
        Check.due("12: still seen", 1, () -> x.ofFrame(0, 0, 3));
    }

    private static void noteStands(PegbarBarn x, int note, int frame, int carried) {
        Check.due("15: frame of note " + note, frame, () -> x.ofNote(note, 1));
        Check.due("15: carried, note " + note, carried, () -> x.ofNote(note, 3));
    }

    private static void carry() {
        PegbarBarn x = new PegbarBarn();
        x.scene(10);
        x.scene(10);
        for (int i = 0; i < 10; i++) {
            x.note(0, i);
        }
        x.note(1, 4);
        x.settle(4);
        x.cut(0, 3, 3);
        int[] frames = {0, 1, 2, 3, 3, 3, 3, 4, 5, 6};
        int[] carried = {0, 0, 0, 1, 1, 1, 0, 0, 0, 0};
        for (int i = 0; i < 10; i++) {
            noteStands(x, i, frames[i], carried[i]);
        }
        noteStands(x, 10, 4, 0);
        Check.due("12: three open notes on the frame", 3, () -> x.ofFrame(0, 3, 4));
        x.cut(0, 3, 4);
        int[] framesThen = {0, 1, 2, 2, 2, 2, 2, 2, 2, 2};
        int[] carriedThen = {0, 0, 0, 2, 2, 2, 1, 1, 1, 1};
        for (int i = 0; i < 10; i++) {
            noteStands(x, i, framesThen[i], carriedThen[i]);
        }
        x.cut(0, 0, 1);
        noteStands(x, 0, 0, 1);
        noteStands(x, 1, 0, 0);
        noteStands(x, 9, 1, 1);
        Check.due("12: settled as it was", 1, () -> x.ofNote(4, 2));
    }

    private static void note() {
        PegbarBarn x = new PegbarBarn();
        x.scene(3);
        x.scene(1);
        Check.due("13: no scene", INDEX, () -> x.note(2, 0));
        Check.due("13: no scene -1", INDEX, () -> x.note(-1, 0));
        Check.due("13: no frame", INDEX, () -> x.note(1, 1));
        Check.due("13: no frame -1", INDEX, () -> x.note(0, -1));
        for (int i = 0; i < 40; i++) {
            int frame = i % 3;
            Check.due("13: note", i, () -> x.note(0, frame));
        }
        Check.due("13: the next one", STATE, () -> x.note(0, 0));
        Check.due("13: index ahead of state", INDEX, () -> x.note(0, 3));
        Check.due("13: forty notes", 40, () -> x.count(6));
        x.settle(0);
        Check.due("13: settled ones count, too", STATE, () -> x.note(0, 0));
        x.cut(0, 0, 1);
        Check.due("13: a frame that was cut is none", INDEX, () -> x.note(0, 2));
    }

    private static void settle() {
        PegbarBarn x = new PegbarBarn();
        x.scene(3);
        x.scene(3);
        x.note(0, 0);
        x.note(1, 0);
        x.note(0, 2);
        Check.due("14: no note", INDEX, () -> x.settle(3));
        Check.due("14: no note -1", INDEX, () -> x.settle(-1));
        Check.due("14: one is left in its scene", 1, () -> x.settle(2));
        Check.due("14: settled", STATE, () -> x.settle(2));
        Check.due("14: none is left in its scene", 0, () -> x.settle(1));
        x.note(0, 1);
        x.note(0, 1);
        Check.due("14: later ones are left", 2, () -> x.settle(0));
        Check.due("14: a later one is left", 1, () -> x.settle(3));
        Check.due("14: none is left", 0, () -> x.settle(4));
        Check.due("14: none is open", 0, () -> x.count(6));
    }

    private static void ofNote() {
        PegbarBarn x = new PegbarBarn();
        x.scene(3);
        x.scene(3);
        x.note(1, 2);
        x.note(0, 1);
        Check.due("15: scene", 1, () -> x.ofNote(0, 0));
        Check.due("15: frame", 2, () -> x.ofNote(0, 1));
        Check.due("15: not settled", 0, () -> x.ofNote(0, 2));
        Check.due("15: never carried", 0, () -> x.ofNote(0, 3));
        x.settle(0);
        Check.due("15: settled", 1, () -> x.ofNote(0, 2));
        Check.due("15: the other is not", 0, () -> x.ofNote(1, 2));
        Check.due("15: what 4", INDEX, () -> x.ofNote(0, 4));
        Check.due("15: what -1", INDEX, () -> x.ofNote(0, -1));
        Check.due("15: no note", INDEX, () -> x.ofNote(2, 0));
        Check.due("15: no note -1", INDEX, () -> x.ofNote(-1, 0));
    }

    private static void everyPlaceTaken() {
        PegbarBarn x = new PegbarBarn();
        for (int i = 0; i < 8; i++) {
            x.asset();
            x.scene(40);
        }
        for (int i = 0; i < 8; i++) {
            int asset = i;
            Check.due("11: cast", i + 1, () -> x.cast(7, asset, NONE, 0, 39));
        }
        for (int i = 0; i < 40; i++) {
            x.note(7, i);
        }
        Check.due("11: no asset, with eight", INDEX, () -> x.cast(0, 8, NONE, 0, 39));
        Check.due("11: no scene, with eight", INDEX, () -> x.cast(8, 0, NONE, 0, 39));
        Check.due("12: no scene, with eight", INDEX, () -> x.cut(8, 0, 1));
        Check.due("12: no frame, with forty", INDEX, () -> x.cut(7, 40, 1));
        Check.due("13: no scene, with eight", INDEX, () -> x.note(8, 0));
        Check.due("13: no frame, with forty", INDEX, () -> x.note(7, 40));
        Check.due("14: no note, with forty", INDEX, () -> x.settle(40));
        Check.due("15: no note, with forty", INDEX, () -> x.ofNote(40, 0));
        Check.due("16: all forty", 40, () -> x.render(7));
        Check.due("18: no scene, with eight", INDEX, () -> x.needs(8));
        Check.due("20: no frame, with forty", INDEX, () -> x.ofFrame(7, 40, 0));
        Check.due("21: no asset, with eight", INDEX, () -> x.kept(7, 39, 8));
        Check.due("12: all but one", 1, () -> x.cut(7, 1, 39));
        Check.due("20: all notes on the one", 40, () -> x.ofFrame(7, 0, 4));
        Check.due("22: frames", 281, () -> x.count(3));
    }
}
