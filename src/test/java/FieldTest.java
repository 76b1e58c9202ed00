/** Promises 1 to 7: a new object, emitters, ticks, bombs, clearField and settings. */
public final class FieldTest {
    private static final int[] OUTSIDE = {Integer.MIN_VALUE, -100, Integer.MAX_VALUE};

    public static void main(String[] args) {
        newObject();
        emitter();
        takeAway();
        tickArguments();
        patterns();
        weavingAndWalls();
        aims();
        limitOfBullets();
        hitsAndShields();
        severalBulletsHitOnce();
        grazes();
        bombs();
        bombReach();
        clearField();
        settings();
        Check.end();
    }

    private static void newObject() {
        BulletLanes x = new BulletLanes();
        int[] due = {0, 0, 5, 3, 2, 0, 0, 0, 0, 0, 0, 0, 0, 0, 0, 0, 2, 0, 0};
        for (int what = 0; what < due.length; what++) {
            Check.due("new: count(" + what + ")", x.count(what), due[what]);
        }
        Check.due("new: undo", x.undo(), -2);
        Check.due("new: restore", x.restore(), -2);
        Check.due("new: free", x.free(0), 1023);
        BulletLanes other = new BulletLanes();
        other.emitter(3, 0, 1, 0);
        Check.due("objects do not share emitters", x.count(0), 0);
    }

    private static void emitter() {
        BulletLanes x = new BulletLanes();
        int[][] wrong = {{-1, 0, 1, 0}, {10, 0, 1, 0}, {0, -1, 1, 0}, {0, 6, 1, 0}, {0, 0, 0, 0},
            {0, 0, 10, 0}, {0, 0, -1, -2}, {0, 0, 3, -1}, {0, 0, 3, 3}, {0, 0, 1, 1}, {0, 0, 9, 9}};
        for (int[] w : wrong) {
            Check.due("wrong emitter", x.emitter(w[0], w[1], w[2], w[3]), -1);
        }
        for (int o : OUTSIDE) {
            Check.due("emitter far outside", x.emitter(o, 0, 1, 0), -1);
            Check.due("emitter far outside", x.emitter(0, o, 1, 0), -1);
            Check.due("emitter far outside", x.emitter(0, 0, o, 0), -1);
            Check.due("emitter far outside", x.emitter(0, 0, 1, o), -1);
        }
        Check.due("no change by errors", x.count(18), 0);
        Check.due("first", x.emitter(0, 0, 1, 0), 0);
        Check.due("second", x.emitter(9, 5, 9, 8), 1);
        Check.due("third, same column", x.emitter(9, 3, 2, 1), 2);
        Check.due("fourth", x.emitter(4, 4, 5, 0), 3);
        Check.due("fifth", x.emitter(4, 4, 5, 0), -3);
        Check.due("fifth and wrong", x.emitter(4, 4, 5, 5), -1);
        Check.dueCounts("four emitters", x, new int[][] {{0, 4}, {18, 4}});
        Check.due("column", x.emitterOf(1, 0), 9);
        Check.due("pattern", x.emitterOf(1, 1), 5);
        Check.due("period", x.emitterOf(1, 2), 9);
        Check.due("phase", x.emitterOf(1, 3), 8);
    }

    private static void takeAway() {
        BulletLanes x = new BulletLanes();
        Check.due("none there", x.takeAway(0), -1);
        Check.hang(x, "1d1;2l2+1;3r3+2;4w4+3");
        x.tick(0);
        Check.due("bullets", x.count(1), 2);
        Check.due("below", x.takeAway(-1), -1);
        Check.due("above", x.takeAway(4), -1);
        Check.due("take 1", x.takeAway(1), 3);
        Check.due("bullets stay", x.count(1), 2);
        int[][] left = {{1, 0, 1, 0}, {3, 2, 3, 2}, {4, 3, 4, 3}};
        for (int e = 0; e < left.length; e++) {
            for (int what = 0; what < 4; what++) {
                Check.due("left " + e, x.emitterOf(e, what), left[e][what]);
            }
        }
        Check.due("3 is gone", x.takeAway(3), -1);
        Check.due("take last", x.takeAway(2), 2);
        Check.due("take first", x.takeAway(0), 1);
        Check.due("3 stays", x.emitterOf(0, 0), 3);
        Check.due("take the only one", x.takeAway(0), 0);
        Check.due("none there", x.takeAway(0), -1);
        Check.due("a new one is 0", x.emitter(0, 0, 1, 0), 0);
    }

    private static void tickArguments() {
        BulletLanes x = new BulletLanes();
        Check.due("tick(-2)", x.tick(-2), -1);
        Check.due("tick(2)", x.tick(2), -1);
        for (int o : OUTSIDE) {
            Check.due("tick far outside", x.tick(o), -1);
        }
        Check.dueCounts("nothing changed", x, new int[][] {{5, 0}, {18, 0}, {2, 5}});
        Check.play(x, "rrrr");
        Check.due("at the right wall", x.count(2), 9);
        Check.due("stays at the wall", x.tick(1), 0);
        Check.due("right wall", x.count(2), 9);
        Check.play(x, "lllllllll");
        Check.due("at the left wall", x.count(2), 0);
        Check.due("stays at the wall", x.tick(-1), 0);
        Check.due("left wall", x.count(2), 0);
        Check.due("stays", x.tick(0), 0);
        Check.due("ticks", x.count(5), 16);
    }

    private static void patterns() {
        int[][] drifts = {{0}, {-1}, {1}, {1}, {1}, {-1, 0, 1}};
        for (int pattern = 0; pattern < 6; pattern++) {
            BulletLanes x = new BulletLanes();
            x.emitter(4, pattern, 3, 2);
            x.tick(0);
            Check.due("not yet", x.count(1), 0);
            x.tick(0);
            Check.due("fired", x.count(7), drifts[pattern].length);
            for (int b = 0; b < drifts[pattern].length; b++) {
                Check.dueBullet("pattern " + pattern, x, b, 0, 4, drifts[pattern][b] + 1, pattern == 3 ? 1 : 0, 0);
            }
            x.tick(0);
            for (int b = 0; b < drifts[pattern].length; b++) {
                Check.due("one row lower", x.bullet(b, 0), 1);
                Check.due("by its drift", x.bullet(b, 1), 4 + drifts[pattern][b]);
            }
            x.tick(0);
            Check.due("between", x.count(7), drifts[pattern].length);
            x.tick(0);
            Check.due("fired again", x.count(7), 2 * drifts[pattern].length);
        }
    }

    private static void weavingAndWalls() {
        BulletLanes x = new BulletLanes();
        Check.hang(x, "4w9+1");
        Check.play(x, "ss");
        Check.dueBullet("weaves", x, 0, 1, 5, 0, 1);
        x.tick(0);
        Check.dueBullet("weaves back", x, 0, 2, 4, 2, 1);

        x = new BulletLanes();
        Check.hang(x, "9r9+1;0l9+1;9w9+1");
        Check.play(x, "s");
        Check.due("three", x.count(1), 3);
        Check.play(x, "s");
        Check.dueCounts("all leave at the walls", x, new int[][] {{1, 0}, {9, 3}, {7, 3}});

        x = new BulletLanes();
        x.set(BulletLanes.TURN, 1);
        Check.hang(x, "9r9+1;0l9+1;9w9+1");
        Check.play(x, "ss");
        Check.dueBullet("turned right", x, 0, 1, 8, 0, 0);
        Check.dueBullet("turned left", x, 1, 1, 1, 2, 0);
        Check.dueBullet("turned, then weaves", x, 2, 1, 8, 2, 1);
        Check.play(x, "sssssssss");
        Check.due("all in the row 10", x.bullet(0, 0), 10);
        Check.hang(x, "5d9+8");
        Check.play(x, "ss");
        Check.dueCounts("below the last row; those of the tick 10 stay", x, new int[][] {{1, 3}, {9, 3}});
    }

    private static void aims() {
        for (int column = 0; column < 10; column++) {
            BulletLanes x = new BulletLanes();
            x.emitter(column, 4, 9, 1);
            x.tick(1);
            int due = column < 6 ? 2 : column == 6 ? 1 : 0;
            Check.due("aims from " + column + " by where the sprite is then", x.bullet(0, 2), due);
        }
    }

    private static void limitOfBullets() {
        BulletLanes x = new BulletLanes();
        Check.hang(x, "2f1;3f1;6f1;7f1");
        Check.play(x, "ssss");
        Check.dueCounts("48 fired", x, new int[][] {{1, 46}, {7, 48}, {8, 0}, {9, 2}});
        x.tick(0);
        Check.dueCounts("60 fired", x, new int[][] {{1, 54}, {7, 60}, {8, 0}, {9, 6}});
        x.tick(0);
        Check.dueCounts("60 there", x, new int[][] {{1, 60}, {7, 70}, {8, 2}, {9, 10}});
        Check.dueBullet("the last one that had room", x, 59, 0, 7, 0, 0, 0);
        Check.due("one alone of the last emitter's three", x.at(0, 7), 1);
        Check.due("a number above", x.bullet(60, 0), -1);
    }

    private static void hitsAndShields() {
        BulletLanes x = new BulletLanes();
        Check.hang(x, "5d1");
        Check.play(x, "sssssssssss");
        Check.dueCounts("ahead of the hit", x, new int[][] {{3, 3}, {14, 0}, {13, 1}});
        int[] due = {1, 1, 1, 2};
        for (int i = 0; i < 4; i++) {
            Check.due("hit " + i, x.tick(0), due[i]);
            Check.dueCounts("hit " + i, x, new int[][] {{3, Math.max(0, 2 - i)}, {14, i + 1}, {10, i + 1},
                {6, i == 3 ? 1 : 0}, {13, Math.min(i + 2, 4)}, {1, 11}});
        }
        Check.due("down: tick", x.tick(0), -2);
        Check.due("down: tick with a wrong step", x.tick(2), -1);
        Check.due("down: bomb", x.bomb(), -2);
        Check.dueCounts("down: nothing passes", x, new int[][] {{5, 15}, {4, 2}});
    }

    private static void severalBulletsHitOnce() {
        BulletLanes x = new BulletLanes();
        Check.hang(x, "5d9+1;5d9+1;5d9+1;4d9+1");
        Check.play(x, "sssssssssss");
        Check.due("hit", x.tick(0), 1);
        Check.dueCounts("three at once", x, new int[][] {{14, 1}, {10, 3}, {3, 2}, {1, 5}, {13, 4}});
    }

    private static void grazes() {
        for (int column = 2; column <= 8; column++) {
            BulletLanes x = new BulletLanes();
            x.emitter(column, 0, 9, 1);
            Check.play(x, "ssssssssss");
            Check.due("row 9 is not beside", x.count(13), 0);
            x.tick(0);
            int due = column >= 4 && column <= 6 ? 1 : 0;
            Check.due("row 10, column " + column, x.count(13), due);
            Check.due("grazed", x.bullet(0, 4), due);
            x.tick(0);
            Check.due("only once, column " + column, x.count(13), due);
        }
        BulletLanes x = new BulletLanes();
        x.emitter(7, 0, 9, 1);
        Check.play(x, "sssssssssss");
        Check.due("two beside", x.count(13), 0);
        x.tick(1);
        Check.dueCounts("side by side in the row 11", x, new int[][] {{13, 1}, {14, 0}});
    }

    private static void bombs() {
        BulletLanes x = new BulletLanes();
        Check.due("a bomb that finds none", x.bomb(), 0);
        Check.due("one left", x.count(4), 1);
        Check.hang(x, "5d1");
        Check.play(x, "ssssssssss");
        Check.due("row 9 is within reach", x.bomb(), 1);
        Check.dueCounts("bombed", x, new int[][] {{11, 1}, {1, 9}, {4, 0}, {5, 10}});
        Check.due("no bomb is left", x.bomb(), -2);
        Check.due("no change by that", x.count(18), 4);
    }

    private static void bombReach() {
        for (int reach = 1; reach <= 5; reach++) {
            BulletLanes x = new BulletLanes();
            x.set(BulletLanes.BLAST, reach);
            Check.hang(x, "9d1;8d1;7d1;6d1");
            Check.play(x, "sssssssssss");
            x.set(0, 0);
            int columns = Math.min(4, reach);
            // The tick 11 has the rows 0 to 10 filled: the row 11 is empty.
            Check.due("reach " + reach, x.bomb(), columns * reach);
            Check.due("just above", x.at(10 - reach, 6), 1);
            Check.due("the highest within", x.at(11 - reach, 6), 0);
            if (reach < 4) {
                Check.due("just beside", x.at(10, 6 + reach), 1);
                Check.due("the farthest within", x.at(10, 5 + reach), 0);
            }
        }
    }

    private static void clearField() {
        BulletLanes x = new BulletLanes();
        Check.due("nothing there", x.clearField(), 0);
        Check.due("a change all the same", x.count(18), 1);
        Check.hang(x, "6d1");
        Check.play(x, "brsssssssssssss");
        x.tick(0);
        Check.due("down", x.count(6), 1);
        Check.due("gone", x.clearField(), 11);
        Check.dueCounts("cleared", x, new int[][] {{0, 1}, {1, 0}, {2, 6}, {3, 3}, {4, 2}, {5, 15}, {6, 0},
            {7, 15}, {10, 4}, {12, 11}, {14, 4}, {13, 4}});
        Check.due("up again", x.tick(0), 0);
        Check.due("fires on", x.count(7), 16);
    }

    private static void settings() {
        BulletLanes x = new BulletLanes();
        int[][] wrong = {{-1, 0}, {2, 0}, {2, 1}, {0, -1}, {0, 2}, {1, 0}, {1, 6}, {1, -1}};
        for (int[] w : wrong) {
            Check.due("set(" + w[0] + ", " + w[1] + ")", x.set(w[0], w[1]), -1);
        }
        for (int o : OUTSIDE) {
            Check.due("set far outside", x.set(o, 1), -1);
            Check.due("set far outside", x.set(0, o), -1);
            Check.due("set far outside", x.set(1, o), -1);
        }
        Check.dueCounts("unchanged", x, new int[][] {{15, 0}, {16, 2}, {18, 0}});
        Check.due("TURN", x.set(0, 1), 0);
        Check.due("TURN again", x.set(0, 1), 1);
        Check.due("TURN back", x.set(0, 0), 1);
        Check.due("BLAST", x.set(1, 5), 2);
        Check.due("BLAST least", x.set(1, 1), 5);
        Check.dueCounts("changed", x, new int[][] {{15, 0}, {16, 1}, {18, 4}});
    }
}
