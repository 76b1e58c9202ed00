/** Promises 26 to 28: undo, save and restore. */
public final class HistoryTest {
    public static void main(String[] args) {
        undoOfEachChange();
        fourStates();
        callsThatAreNoChange();
        saveAndRestore();
        snapshotStays();
        Check.end();
    }

    private static BulletLanes busy() {
        BulletLanes x = new BulletLanes();
        Check.hang(x, "5f2;3w3+1;8a4");
        Check.play(x, "lrlrsssssssssss");
        Check.type(x, "1d1");
        return x;
    }

    private static String look(BulletLanes x) {
        StringBuilder all = new StringBuilder();
        for (int what = 0; what <= 16; what++) {
            all.append(x.count(what)).append(' ');
        }
        int emitters = x.count(0);
        for (int e = 0; e < emitters; e++) {
            for (int what = 0; what < 5; what++) {
                all.append(x.emitterOf(e, what)).append(' ');
            }
        }
        int bullets = x.count(1);
        for (int b = 0; b < bullets; b++) {
            for (int what = 0; what < 5; what++) {
                all.append(x.bullet(b, what)).append(' ');
            }
        }
        return all.toString();
    }

    private static int change(BulletLanes x, int which) {
        switch (which) {
            case 0:
                return x.emitter(0, 0, 1, 0);
            case 1:
                return x.takeAway(0);
            case 2:
                return x.tick(1);
            case 3:
                return x.bomb();
            case 4:
                return x.set(0, 0) + x.set(1, 5);
            case 5:
                return x.hang();
            case 6:
                Check.type(x, "lb");
                return x.play();
            case 7:
                return x.clearField();
            default:
                x.save();
                return x.restore();
        }
    }

    private static void undoOfEachChange() {
        for (int which = 0; which <= 8; which++) {
            BulletLanes x = busy();
            String before = look(x);
            int states = x.count(18);
            Check.due("change " + which, change(x, which) >= 0 ? 1 : 0, 1);
            int length = x.count(17);
            int more = which == 4 ? 2 : 1;
            Check.due("states, change " + which, x.count(18), states + more);
            for (int i = more - 1; i >= 0; i--) {
                Check.due("undo of change " + which, x.undo(), states + i);
            }
            Check.due("as before the change " + which, look(x).equals(before) ? 1 : 0, 1);
            Check.due("the pad stays, change " + which, x.count(17), length);
        }
    }

    private static void fourStates() {
        BulletLanes x = new BulletLanes();
        for (int i = 1; i <= 6; i++) {
            x.tick(0);
            Check.due("states", x.count(18), Math.min(i, 4));
        }
        for (int i = 3; i >= 0; i--) {
            Check.due("undo", x.undo(), i);
            Check.due("tick", x.count(5), 2 + i);
        }
        Check.due("undo without a state", x.undo(), -2);
        Check.due("tick", x.count(5), 2);
        x.tick(0);
        Check.due("one again", x.count(18), 1);
        Check.due("undo", x.undo(), 0);
        Check.due("tick", x.count(5), 2);
    }

    private static void callsThatAreNoChange() {
        BulletLanes x = new BulletLanes();
        Check.hang(x, "5d1");
        x.tick(0);
        String before = look(x);
        x.tick(2);
        x.set(2, 0);
        x.emitter(0, 0, 0, 0);
        x.takeAway(1);
        x.hang();
        x.play();
        x.restore();
        x.append('s');
        x.clear();
        x.fault(0);
        x.save();
        x.at(0, 0);
        x.free(30);
        x.lane(30, 1);
        x.ends(30, 0);
        x.way(30, 30);
        x.asides(30);
        x.fair();
        x.shuts(30);
        x.ifStepped(1, 30, 0);
        x.openness(30);
        Check.due("no change", look(x).equals(before) ? 1 : 0, 1);
        Check.due("no state", x.count(18), 2);
    }

    private static void saveAndRestore() {
        BulletLanes x = busy();
        Check.due("restore without a snapshot", x.restore(), -2);
        Check.due("save", x.save(), 15);
        String saved = look(x);
        x.set(0, 1);
        x.set(1, 4);
        x.takeAway(1);
        x.bomb();
        Check.play(x, "lll");
        x.clearField();
        Check.type(x, "abcd");
        Check.due("restore", x.restore(), 15);
        Check.due("as it was saved", look(x).equals(saved) ? 1 : 0, 1);
        Check.dueCounts("the pad and the history stay", x, new int[][] {{17, 4}, {18, 4}});
        Check.due("undo of restore", x.undo(), 3);
        Check.dueCounts("as before restore", x, new int[][] {{5, 18}, {12, x.count(12)}, {1, 0}, {4, 2}});
        x.undo();
        Check.due("undo of clearField", x.count(4), 1);
        Check.due("restore again", x.restore(), 15);
        Check.due("as it was saved", look(x).equals(saved) ? 1 : 0, 1);
    }

    private static void snapshotStays() {
        BulletLanes x = new BulletLanes();
        Check.due("save at the tick 0", x.save(), 0);
        x.tick(1);
        Check.due("save in place of it", x.save(), 1);
        x.undo();
        Check.due("undone", x.count(5), 0);
        Check.due("undo leaves the snapshot", x.restore(), 1);
        Check.due("column", x.count(2), 6);
        x.tick(1);
        x.tick(1);
        Check.due("restored once more", x.restore(), 1);
        Check.due("column", x.count(2), 6);
        Check.due("a change even if nothing is different", x.count(18), 4);
        x.restore();
        x.undo();
        Check.due("nothing was different", x.count(5), 1);
    }
}
