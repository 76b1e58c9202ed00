/** The boundary sentences of changes, the history and the snapshot: the promises 26 to 28. */
public final class EdgeHistoryTest {
    public static void main(String[] args) {
        noneAtFirst();
        atMostFour();
        downToNone();
        eachChangeIsOneState();
        alsoIfNothingIsDifferent();
        refusedCallsAreNoStates();
        otherCallsAreNoStates();
        undoOfEach();
        padAndSnapshotStay();
        fullAndEmptyStates();
        saveReturnsTheTick();
        saveInPlaceOfTheOneThatWas();
        snapshotStays();
        restoreOfEverything();
        restoreIsAChange();
        Check.end();
    }

    private static BulletLanes busy() {
        BulletLanes x = new BulletLanes();
        Check.hang(x, "5f2;3w3+1;8a4");
        Check.play(x, "lrlrsssssssssss");
        Check.type(x, "1d1");
        return x;
    }

    private static final Whole.Call[] CHANGES = {x -> x.emitter(9, 5, 9, 8), x -> x.takeAway(0), x -> x.tick(1),
        BulletLanes::bomb, x -> x.set(0, 1), x -> x.set(1, 5), BulletLanes::hang, EdgeHistoryTest::play,
        BulletLanes::clearField, EdgeHistoryTest::restoreAnother};

    private static int play(BulletLanes x) {
        Check.type(x, "lbs");
        return x.play();
    }

    private static int restoreAnother(BulletLanes x) {
        x.save();
        return x.restore();
    }

    private static void noneAtFirst() {
        Check.sentence("NOT_POSSIBLE if it has none");
        BulletLanes x = new BulletLanes();
        Check.due("states", x.count(18), 0);
        Check.due("undo", x.undo(), -2);
        Check.due("undo again", x.undo(), -2);
        Check.due("states", x.count(18), 0);
    }

    private static void atMostFour() {
        Check.sentence("A history of at most 4 states is kept; if there are 5 states then, the oldest one is dropped");
        for (int changes = 1; changes <= 7; changes++) {
            BulletLanes x = new BulletLanes();
            for (int i = 0; i < changes; i++) {
                x.tick(0);
            }
            int states = Math.min(4, changes);
            Check.due("states", x.count(18), states);
            for (int left = states - 1; left >= 0; left--) {
                Check.due("undo", x.undo(), left);
                Check.due("states", x.count(18), left);
                Check.due("the tick", x.count(5), changes - states + left);
            }
            Check.due("no more", x.undo(), -2);
            Check.due("the tick", x.count(5), changes - states);
        }
    }

    private static void downToNone() {
        Check.sentence("Returns how many states the history has then");
        BulletLanes x = new BulletLanes();
        for (int round = 0; round < 3; round++) {
            x.tick(1);
            Check.due("one", x.count(18), 1);
            Check.due("none", x.undo(), 0);
            Check.due("back", x.count(2), 5);
        }
        x.tick(1);
        x.tick(1);
        Check.due("one is left", x.undo(), 1);
        x.tick(-1);
        Check.due("a new one behind it", x.count(18), 2);
        Check.due("undo", x.undo(), 1);
        Check.due("as before the new one", x.count(2), 6);
        Check.due("undo", x.undo(), 0);
        Check.due("as before the first", x.count(2), 5);
    }

    private static void eachChangeIsOneState() {
        Check.sentence("each change records everything before it");
        for (int change = 0; change < CHANGES.length; change++) {
            BulletLanes x = busy();
            int before = x.count(18);
            Check.due("change " + change, CHANGES[change].on(x) >= 0 ? 1 : 0, 1);
            Check.due("states, change " + change, x.count(18), before + 1);
        }
    }

    private static void alsoIfNothingIsDifferent() {
        Check.sentence("(also if nothing is different then)");
        BulletLanes x = new BulletLanes();
        x.set(0, 0);
        Check.due("the same TURN", x.count(18), 1);
        x.set(1, 2);
        Check.due("the same BLAST", x.count(18), 2);
        x.clearField();
        Check.due("nothing to clear", x.count(18), 3);
        x.save();
        x.restore();
        Check.due("the same field", x.count(18), 4);
        BulletLanes y = new BulletLanes();
        Check.hang(y, "5d1");
        Check.hang(y, "5d1");
        Check.due("the same curtain", y.count(18), 2);
        Check.play(y, "bb");
        Check.type(y, "b");
        Check.due("none is played", y.play(), 0);
        Check.due("a state all the same", y.count(18), 4);
    }

    private static void refusedCallsAreNoStates() {
        Check.sentence("The changes are the calls ... that return no error");
        Whole.Call[] refused = {x -> x.emitter(10, 0, 1, 0), x -> x.emitter(0, 0, 1, 0), x -> x.takeAway(4),
            x -> x.takeAway(-1), x -> x.tick(2), x -> x.tick(0), BulletLanes::bomb, x -> x.set(0, 2), x -> x.set(1, 6),
            BulletLanes::hang, BulletLanes::play, BulletLanes::restore};
        for (int i = 0; i < refused.length; i++) {
            BulletLanes x = new BulletLanes();
            Check.hang(x, "5d1;5d1;5d1;5d1");
            Check.play(x, "sssssssssssssss");
            int error = refused[i].on(x);
            Check.due("refused " + i, error < 0 ? 1 : 0, 1);
            Check.due("states, refused " + i, x.count(18), 2);
            Check.due("undo, refused " + i, x.undo(), 1);
            Check.due("of the steps, refused " + i, x.count(5), 0);
        }
    }

    private static void otherCallsAreNoStates() {
        Check.sentence("append, clear, fault, undo and save are no changes");
        BulletLanes x = new BulletLanes();
        x.tick(0);
        x.append('s');
        x.fault(0);
        x.clear();
        x.save();
        Check.due("one state", x.count(18), 1);
        Check.due("none", x.undo(), 0);
        Check.due("undo cannot be undone", x.undo(), -2);
        Check.due("the tick", x.count(5), 0);
    }

    private static void undoOfEach() {
        Check.sentence("everything but the pad and the snapshot is as it was before it");
        String before = Whole.field(EdgeHistoryTest::busy);
        for (int change = 0; change < CHANGES.length; change++) {
            Whole.Call call = CHANGES[change];
            String behind = Whole.field(() -> {
                BulletLanes x = busy();
                call.on(x);
                Check.due("undo", x.undo(), 2);
                return x;
            });
            Check.due("as before the change " + change, behind.equals(before) ? 1 : 0, 1);
        }
    }

    private static void padAndSnapshotStay() {
        Check.sentence("but the pad and the snapshot");
        BulletLanes x = new BulletLanes();
        x.tick(1);
        Check.type(x, "ls");
        x.save();
        x.tick(1);
        x.append('r');
        Check.due("undo", x.undo(), 1);
        Check.due("the pad stays", x.count(17), 3);
        Check.due("undo behind the snapshot", x.undo(), 0);
        Check.due("the snapshot stays", x.restore(), 1);
        Check.due("its column", x.count(2), 6);
        Check.due("restore leaves the pad", x.count(17), 3);
        Check.due("it is the same", x.play(), 3);
        Check.due("the pad is empty", x.count(17), 0);
        x.undo();
        Check.due("undo does not fill it again", x.count(17), 0);
        Check.type(x, "1d1");
        x.hang();
        x.undo();
        Check.due("undo of hang does not fill it again", x.count(17), 0);
    }

    private static void fullAndEmptyStates() {
        Check.sentence("undo and restore, of full and of empty states");
        Whole.Maker full = () -> {
            BulletLanes x = new BulletLanes();
            Check.hang(x, "4f1;4f1;5f1;5f1");
            Check.play(x, "sssss");
            return x;
        };
        String due = Whole.field(full);
        String emptied = Whole.field(Whole.after(full, x -> {
            x.clearField();
            x.takeAway(0);
            return x.undo() + x.undo();
        }));
        Check.due("60 bullets and 4 emitters by undo", emptied.equals(due) ? 1 : 0, 1);
        String restored = Whole.field(Whole.after(full, x -> {
            x.save();
            x.clearField();
            Check.hang(x, "0d1");
            return x.restore();
        }));
        Check.due("60 bullets and 4 emitters by restore", restored.equals(due) ? 1 : 0, 1);
        String none = Whole.field(BulletLanes::new);
        String back = Whole.field(() -> {
            BulletLanes x = new BulletLanes();
            x.save();
            Check.hang(x, "4f1;4f1;5f1;5f1");
            Check.play(x, "ssssss");
            x.restore();
            return x;
        });
        Check.due("none of them by restore", back.equals(none) ? 1 : 0, 1);
        String undone = Whole.field(Whole.after(full, x -> x.undo() + x.undo()));
        Check.due("none of them by undo", undone.equals(none) ? 1 : 0, 1);
    }

    private static void saveReturnsTheTick() {
        Check.sentence("save: Returns the number of the tick");
        BulletLanes x = new BulletLanes();
        Check.due("at first", x.save(), 0);
        x.tick(0);
        Check.due("then", x.save(), 1);
        Check.play(x, "sssssssss");
        Check.due("then", x.save(), 10);
        x.undo();
        Check.due("undone", x.save(), 1);
    }

    private static void saveInPlaceOfTheOneThatWas() {
        Check.sentence("in place of the one that was; NOT_POSSIBLE if there is none");
        BulletLanes x = new BulletLanes();
        Check.due("none", x.restore(), -2);
        Check.dueCounts("none", x, new int[][] {{18, 0}});
        x.tick(1);
        Check.due("none", x.restore(), -2);
        x.save();
        Check.due("one", x.restore(), 1);
        x.tick(1);
        x.save();
        x.tick(1);
        Check.due("the latter one", x.restore(), 2);
        Check.due("its column", x.count(2), 7);
    }

    private static void snapshotStays() {
        Check.sentence("Restores the snapshot, which stays");
        String due = Whole.field(EdgeHistoryTest::busy);
        // The last change saves by itself.
        for (int change = 0; change + 1 < CHANGES.length; change++) {
            Whole.Call call = CHANGES[change];
            String got = Whole.field(() -> {
                BulletLanes y = busy();
                y.save();
                call.on(y);
                y.restore();
                call.on(y);
                y.tick(-1);
                Check.due("restore", y.restore(), 15);
                return y;
            });
            Check.due("twice, change " + change, got.equals(due) ? 1 : 0, 1);
        }
    }

    private static void restoreOfEverything() {
        Check.sentence("a snapshot of everything but the pad and the history");
        BulletLanes x = busy();
        x.set(0, 1);
        x.set(1, 4);
        x.bomb();
        x.save();
        x.set(0, 0);
        x.set(1, 1);
        x.bomb();
        x.takeAway(2);
        Check.play(x, "ll");
        x.clearField();
        int cleared = x.count(12);
        Check.type(x, "abc");
        Check.due("restore", x.restore(), 15);
        int[][] due = {{0, 3}, {2, 5}, {4, 1}, {5, 15}, {6, 0}, {12, 0}, {15, 1}, {16, 4}, {17, 3}, {18, 4}};
        Check.dueCounts("restored", x, due);
        x.undo();
        Check.dueCounts("undone", x, new int[][] {{0, 2}, {4, 2}, {5, 17}, {12, cleared}, {15, 0}, {16, 1}, {17, 3}});
        BulletLanes down = new BulletLanes();
        Check.hang(down, "5d1");
        Check.play(down, "sssssssssssssss");
        down.save();
        down.clearField();
        Check.due("up", down.tick(0), 0);
        Check.due("restored", down.restore(), 15);
        Check.dueCounts("down again", down, new int[][] {{6, 1}, {3, 0}, {1, 11}});
        Check.due("no tick", down.tick(0), -2);
        down.undo();
        Check.due("up by undo", down.tick(0), 0);
    }

    private static void restoreIsAChange() {
        Check.sentence("The changes are the calls of ... restore");
        BulletLanes x = new BulletLanes();
        x.save();
        for (int i = 1; i <= 5; i++) {
            x.tick(1);
        }
        Check.due("full", x.count(18), 4);
        Check.due("restore", x.restore(), 0);
        Check.due("the oldest one is dropped", x.count(18), 4);
        Check.due("undo of it", x.undo(), 3);
        Check.due("the tick", x.count(5), 5);
        for (int left = 2; left >= 0; left--) {
            Check.due("undo", x.undo(), left);
        }
        Check.due("the tick", x.count(5), 2);
        Check.due("no more", x.undo(), -2);
    }
}
