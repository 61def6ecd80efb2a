/** Promises 1 to 9: a new object, assets, bones, keys, versions, poses. */
public final class AssetsTest {
    private static final String INDEX = "throws.IndexOutOfBoundsException";
    private static final String ARGUMENT = "throws.IllegalArgumentException";
    private static final String STATE = "throws.IllegalStateException";
    private static final int NONE = PegbarBarn.NONE;
    private static final int HOLD = PegbarBarn.HOLD;
    private static final int EVEN = PegbarBarn.EVEN;
    private static final int SLOW = PegbarBarn.SLOW;
    private static final int LOW = Integer.MIN_VALUE;
    private static final int HIGH = Integer.MAX_VALUE;

    public static void main(String[] args) {
        aNewObject();
        asset();
        bone();
        key();
        keyInPlace();
        unkey();
        publish();
        versionsNeverChange();
        hold();
        even();
        slow();
        howTheFirstGoesOn();
        poseOfATree();
        poseWrong();
        keysMoveWhole();
        ofAsset();
        everyPlaceTaken();
        Check.end();
    }

    private static PegbarBarn withBones(int bones) {
        PegbarBarn x = new PegbarBarn();
        x.asset();
        for (int i = 0; i < bones; i++) {
            x.bone(0, i - 1);
        }
        return x;
    }

    private static void poses(PegbarBarn x, int asset, int version, int bone, int frame, Object want) {
        String call = "(" + asset + ", " + version + ", " + bone + ", " + frame + ")";
        Check.due("7: pose" + call, want, () -> x.pose(asset, version, bone, frame));
        Check.due("8: poseAnew" + call, want, () -> x.poseAnew(asset, version, bone, frame));
    }

    private static void aNewObject() {
        PegbarBarn x = new PegbarBarn();
        for (int what = 0; what < 7; what++) {
            int w = what;
            Check.due("1: new, count(" + w + ")", 0, () -> x.count(w));
        }
        Check.due("1: new, no asset", INDEX, () -> x.ofAsset(0, 0));
        Check.due("1: new, no scene", INDEX, () -> x.needs(0));
        Check.due("1: new, no note", INDEX, () -> x.ofNote(0, 0));
        x.asset();
        Check.due("1: another object is new", 0, () -> new PegbarBarn().count(0));
    }

    private static void asset() {
        PegbarBarn x = new PegbarBarn();
        for (int i = 0; i < 8; i++) {
            Check.due("2: asset", i, x::asset);
        }
        Check.due("2: the ninth asset", STATE, x::asset);
        Check.due("2: the ninth changes nothing", 8, () -> x.count(0));
        Check.due("2: no bones at first", 0, () -> x.ofAsset(7, 0));
        Check.due("2: no versions at first", 0, () -> x.ofAsset(7, 1));
    }

    private static void bone() {
        PegbarBarn x = withBones(0);
        Check.due("3: no asset", INDEX, () -> x.bone(1, NONE));
        Check.due("3: no asset -1", INDEX, () -> x.bone(-1, NONE));
        Check.due("3: no asset, lowest", INDEX, () -> x.bone(LOW, NONE));
        Check.due("3: own parent", INDEX, () -> x.bone(0, 0));
        Check.due("3: parent -2", INDEX, () -> x.bone(0, -2));
        Check.due("3: parent highest", INDEX, () -> x.bone(0, HIGH));
        for (int i = 0; i < 10; i++) {
            int parent = i % 3 == 0 ? NONE : i - 1;
            Check.due("3: bone", i, () -> x.bone(0, parent));
        }
        Check.due("3: the eleventh", STATE, () -> x.bone(0, NONE));
        Check.due("3: the eleventh, parent wrong too", INDEX, () -> x.bone(0, 10));
        Check.due("3: still ten", 10, () -> x.ofAsset(0, 0));
        x.asset();
        Check.due("3: another asset counts anew", 0, () -> x.bone(1, NONE));
        Check.due("3: a bone of another draft is none", INDEX, () -> x.bone(1, 1));
    }

    private static void key() {
        PegbarBarn x = withBones(2);
        Check.due("4: no asset", INDEX, () -> x.key(1, 0, 0, 0, 0));
        Check.due("4: no asset -1", INDEX, () -> x.key(-1, 0, 0, 0, 0));
        Check.due("4: no bone", INDEX, () -> x.key(0, 2, 0, 0, 0));
        Check.due("4: no bone -1", INDEX, () -> x.key(0, -1, 0, 0, 0));
        Check.due("4: index ahead of argument", INDEX, () -> x.key(0, 2, 100, 1000, 3));
        Check.due("4: frame -1", ARGUMENT, () -> x.key(0, 0, -1, 0, 0));
        Check.due("4: frame 100", ARGUMENT, () -> x.key(0, 0, 100, 0, 0));
        Check.due("4: value -1000", ARGUMENT, () -> x.key(0, 0, 0, -1000, 0));
        Check.due("4: value 1000", ARGUMENT, () -> x.key(0, 0, 0, 1000, 0));
        Check.due("4: value lowest", ARGUMENT, () -> x.key(0, 0, 0, LOW, 0));
        Check.due("4: goesOn -1", ARGUMENT, () -> x.key(0, 0, 0, 0, -1));
        Check.due("4: goesOn 3", ARGUMENT, () -> x.key(0, 0, 0, 0, 3));
        Check.due("4: frame 99, value 999", 1, () -> x.key(0, 0, 99, 999, SLOW));
        Check.due("4: frame 0, value -999", 2, () -> x.key(0, 0, 0, -999, HOLD));
        Check.due("4: of another bone", 1, () -> x.key(0, 1, 7, 7, EVEN));
        for (int i = 0; i < 10; i++) {
            int frame = 90 - 7 * i;
            int size = 3 + i;
            Check.due("4: keys from behind", size, () -> x.key(0, 0, frame, frame, HOLD));
        }
        Check.due("4: the thirteenth", STATE, () -> x.key(0, 0, 1, 0, 0));
        Check.due("4: argument ahead of state", ARGUMENT, () -> x.key(0, 0, 1, 0, 3));
        Check.due("4: with 12, one at that frame", 12, () -> x.key(0, 0, 83, 5, HOLD));
        poses(x, 0, NONE, 0, 83, 5);
        poses(x, 0, NONE, 0, 1, -999);
        poses(x, 0, NONE, 0, 76, 76);
    }

    private static void keyInPlace() {
        PegbarBarn x = withBones(1);
        x.key(0, 0, 10, 1, EVEN);
        x.key(0, 0, 20, 11, EVEN);
        Check.due("4: in place", 2, () -> x.key(0, 0, 10, 5, HOLD));
        poses(x, 0, NONE, 0, 15, 5);
        poses(x, 0, NONE, 0, 9, 5);
        Check.due("4: between", 3, () -> x.key(0, 0, 15, 100, HOLD));
        poses(x, 0, NONE, 0, 14, 5);
        poses(x, 0, NONE, 0, 16, 100);
        poses(x, 0, NONE, 0, 20, 11);
    }

    private static void unkey() {
        PegbarBarn x = withBones(1);
        Check.due("5: no asset", INDEX, () -> x.unkey(1, 0, 0));
        Check.due("5: no bone", INDEX, () -> x.unkey(0, 1, 0));
        Check.due("5: no bone -1", INDEX, () -> x.unkey(0, -1, 100));
        Check.due("5: frame -1", ARGUMENT, () -> x.unkey(0, 0, -1));
        Check.due("5: frame 100", ARGUMENT, () -> x.unkey(0, 0, 100));
        Check.due("5: of no keys", false, () -> x.unkey(0, 0, 0));
        for (int i = 0; i < 12; i++) {
            x.key(0, 0, 8 * i, i, HOLD);
        }
        Check.due("5: none there", false, () -> x.unkey(0, 0, 1));
        Check.due("5: none there, behind all", false, () -> x.unkey(0, 0, 99));
        Check.due("5: the first", true, () -> x.unkey(0, 0, 0));
        poses(x, 0, NONE, 0, 0, 1);
        Check.due("5: the first again", false, () -> x.unkey(0, 0, 0));
        Check.due("5: the last", true, () -> x.unkey(0, 0, 88));
        poses(x, 0, NONE, 0, 99, 10);
        Check.due("5: one between", true, () -> x.unkey(0, 0, 40));
        poses(x, 0, NONE, 0, 47, 4);
        poses(x, 0, NONE, 0, 48, 6);
        Check.due("5: nine are left", 10, () -> x.key(0, 0, 99, 0, HOLD));
        Check.due("5: all but one", 10, () -> {
            int taken = 0;
            for (int i = 0; i < 99; i++) {
                taken += x.unkey(0, 0, i) ? 1 : 0;
            }
            return taken + 1;
        });
        Check.due("5: the only one", true, () -> x.unkey(0, 0, 99));
        poses(x, 0, NONE, 0, 50, 0);
    }

    private static void keysMoveWhole() {
        PegbarBarn x = withBones(1);
        x.key(0, 0, 20, 0, EVEN);
        x.key(0, 0, 30, 100, SLOW);
        x.key(0, 0, 40, 200, HOLD);
        x.key(0, 0, 10, 50, HOLD);
        poses(x, 0, NONE, 0, 15, 50);
        poses(x, 0, NONE, 0, 25, 50);
        poses(x, 0, NONE, 0, 35, 125);
        x.unkey(0, 0, 10);
        poses(x, 0, NONE, 0, 25, 50);
        poses(x, 0, NONE, 0, 35, 125);
        x.unkey(0, 0, 40);
        poses(x, 0, NONE, 0, 35, 100);
        x.unkey(0, 0, 30);
        poses(x, 0, NONE, 0, 25, 0);
    }

    private static void publish() {
        PegbarBarn x = withBones(0);
        Check.due("6: no asset", INDEX, () -> x.publish(1));
        Check.due("6: no asset -1", INDEX, () -> x.publish(-1));
        Check.due("6: no bones", STATE, () -> x.publish(0));
        Check.due("6: nothing changed", 0, () -> x.ofAsset(0, 1));
        x.bone(0, NONE);
        for (int i = 0; i < 12; i++) {
            int version = i;
            Check.due("6: publish", version, () -> x.publish(0));
        }
        Check.due("6: the thirteenth", STATE, () -> x.publish(0));
        Check.due("6: still twelve", 12, () -> x.ofAsset(0, 1));
    }

    private static void versionsNeverChange() {
        PegbarBarn x = withBones(2);
        x.key(0, 0, 0, 3, EVEN);
        x.key(0, 0, 10, 13, EVEN);
        x.key(0, 1, 0, 100, HOLD);
        x.publish(0);
        x.key(0, 0, 10, 23, EVEN);
        x.key(0, 0, 5, 7, HOLD);
        x.unkey(0, 1, 0);
        x.bone(0, 0);
        poses(x, 0, 0, 1, 4, 107);
        poses(x, 0, 0, 1, 10, 113);
        poses(x, 0, 0, 2, 4, INDEX);
        poses(x, 0, NONE, 1, 4, 6);
        poses(x, 0, NONE, 2, 10, 23);
        x.publish(0);
        poses(x, 0, 1, 2, 10, 23);
        poses(x, 0, 0, 1, 99, 113);
        Check.due("6: the draft stays", 3, () -> x.ofAsset(0, 0));
    }

    private static void hold() {
        PegbarBarn x = withBones(1);
        poses(x, 0, NONE, 0, 0, 0);
        poses(x, 0, NONE, 0, 99, 0);
        x.key(0, 0, 10, 4, HOLD);
        poses(x, 0, NONE, 0, 0, 4);
        poses(x, 0, NONE, 0, 10, 4);
        poses(x, 0, NONE, 0, 99, 4);
        x.key(0, 0, 12, -9, HOLD);
        poses(x, 0, NONE, 0, 11, 4);
        poses(x, 0, NONE, 0, 12, -9);
        poses(x, 0, NONE, 0, 13, -9);
    }

    private static void even() {
        PegbarBarn x = withBones(1);
        x.key(0, 0, 10, 0, EVEN);
        x.key(0, 0, 13, 5, EVEN);
        poses(x, 0, NONE, 0, 9, 0);
        poses(x, 0, NONE, 0, 11, 1);
        poses(x, 0, NONE, 0, 12, 3);
        poses(x, 0, NONE, 0, 13, 5);
        poses(x, 0, NONE, 0, 14, 5);
        x.key(0, 0, 13, -5, EVEN);
        poses(x, 0, NONE, 0, 11, -2);
        poses(x, 0, NONE, 0, 12, -4);
        x.key(0, 0, 10, -999, EVEN);
        x.key(0, 0, 13, 999, EVEN);
        poses(x, 0, NONE, 0, 11, -333);
    }

    private static void slow() {
        PegbarBarn x = withBones(1);
        x.key(0, 0, 0, 10, SLOW);
        x.key(0, 0, 4, 26, HOLD);
        poses(x, 0, NONE, 0, 0, 10);
        poses(x, 0, NONE, 0, 1, 11);
        poses(x, 0, NONE, 0, 2, 14);
        poses(x, 0, NONE, 0, 3, 19);
        poses(x, 0, NONE, 0, 4, 26);
        x.key(0, 0, 4, 9, HOLD);
        poses(x, 0, NONE, 0, 1, 9);
        poses(x, 0, NONE, 0, 3, 9);
        x.key(0, 0, 4, 7, HOLD);
        poses(x, 0, NONE, 0, 1, 9);
        poses(x, 0, NONE, 0, 2, 9);
        poses(x, 0, NONE, 0, 3, 8);
        PegbarBarn y = withBones(1);
        y.key(0, 0, 0, -999, SLOW);
        y.key(0, 0, 99, 999, SLOW);
        poses(y, 0, NONE, 0, 98, 958);
        poses(y, 0, NONE, 0, 50, -490);
    }

    private static void howTheFirstGoesOn() {
        PegbarBarn x = withBones(1);
        x.key(0, 0, 0, 0, HOLD);
        x.key(0, 0, 10, 100, EVEN);
        x.key(0, 0, 20, 0, SLOW);
        x.key(0, 0, 30, 100, HOLD);
        poses(x, 0, NONE, 0, 5, 0);
        poses(x, 0, NONE, 0, 15, 50);
        poses(x, 0, NONE, 0, 25, 25);
        poses(x, 0, NONE, 0, 35, 100);
    }

    private static void poseOfATree() {
        PegbarBarn x = withBones(10);
        for (int i = 0; i < 10; i++) {
            x.key(0, i, 0, 999, HOLD);
        }
        poses(x, 0, NONE, 9, 50, 9990);
        x.publish(0);
        poses(x, 0, 0, 9, 99, 9990);
        poses(x, 0, 0, 4, 0, 4995);
        x.asset();
        x.bone(1, NONE);
        x.bone(1, 0);
        x.bone(1, 0);
        x.bone(1, NONE);
        x.bone(1, 2);
        for (int i = 0; i < 5; i++) {
            x.key(1, i, 0, 1 << i, HOLD);
        }
        x.publish(1);
        int[] want = {1, 3, 5, 8, 21};
        for (int version = NONE; version <= 0; version++) {
            for (int i = 0; i < 5; i++) {
                poses(x, 1, version, i, 3, want[i]);
            }
        }
    }

    private static void poseWrong() {
        PegbarBarn x = withBones(1);
        poses(x, 1, NONE, 0, 0, INDEX);
        poses(x, -1, NONE, 0, 0, INDEX);
        poses(x, LOW, NONE, 0, 0, INDEX);
        poses(x, 0, 0, 0, 0, INDEX);
        poses(x, 0, -2, 0, 0, INDEX);
        poses(x, 0, NONE, 1, 0, INDEX);
        poses(x, 0, NONE, -1, 0, INDEX);
        poses(x, 0, NONE, HIGH, HIGH, INDEX);
        poses(x, 0, NONE, 0, -1, ARGUMENT);
        poses(x, 0, NONE, 0, 100, ARGUMENT);
        x.publish(0);
        poses(x, 0, 0, 0, 0, 0);
        poses(x, 0, 0, 0, 100, ARGUMENT);
        poses(x, 0, 0, 0, HIGH, ARGUMENT);
        poses(x, 0, 1, 0, 100, INDEX);
        x.asset();
        poses(x, 1, 0, 0, 0, INDEX);
    }

    private static void ofAsset() {
        PegbarBarn x = withBones(3);
        x.asset();
        x.publish(0);
        x.publish(0);
        x.scene(4);
        x.scene(4);
        x.scene(4);
        x.cast(0, 0, NONE, 0, 0);
        x.cast(2, 0, 1, 39, 39);
        x.cast(2, 0, 0, 0, 39);
        Check.due("9: bones", 3, () -> x.ofAsset(0, 0));
        Check.due("9: versions", 2, () -> x.ofAsset(0, 1));
        Check.due("9: scenes", 2, () -> x.ofAsset(0, 2));
        Check.due("9: bones of the other", 0, () -> x.ofAsset(1, 0));
        Check.due("9: scenes of the other", 0, () -> x.ofAsset(1, 2));
        Check.due("9: no asset", INDEX, () -> x.ofAsset(2, 0));
        Check.due("9: no asset -1", INDEX, () -> x.ofAsset(-1, 0));
        Check.due("9: what 3", INDEX, () -> x.ofAsset(0, 3));
        Check.due("9: what -1", INDEX, () -> x.ofAsset(0, -1));
    }

    private static void everyPlaceTaken() {
        PegbarBarn x = withBones(10);
        for (int i = 0; i < 12; i++) {
            x.key(0, 9, 5 * i, i, EVEN);
        }
        poses(x, 0, NONE, 9, 99, 11);
        poses(x, 0, NONE, 10, 0, INDEX);
        for (int i = 0; i < 12; i++) {
            x.publish(0);
        }
        poses(x, 0, 11, 9, 99, 11);
        poses(x, 0, 11, 9, 39, 7);
        poses(x, 0, 11, 9, 40, 8);
        poses(x, 0, 11, 10, 0, INDEX);
        poses(x, 0, 12, 9, 0, INDEX);
        for (int i = 0; i < 7; i++) {
            x.asset();
        }
        Check.due("3: no asset, with eight", INDEX, () -> x.bone(8, NONE));
        Check.due("4: no asset, with eight", INDEX, () -> x.key(8, 0, 0, 0, 0));
        Check.due("5: no asset, with eight", INDEX, () -> x.unkey(8, 0, 0));
        Check.due("6: no asset, with eight", INDEX, () -> x.publish(8));
        Check.due("9: no asset, with eight", INDEX, () -> x.ofAsset(8, 0));
        poses(x, 8, NONE, 0, 0, INDEX);
    }
}
