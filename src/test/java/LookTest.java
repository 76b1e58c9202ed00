/** Promises 13 to 16: emitterOf, bullet, at and count. */
public final class LookTest {
    public static void main(String[] args) {
        emitterOf();
        ticksToFire();
        bullet();
        at();
        count();
        Check.end();
    }

    private static void emitterOf() {
        BulletLanes x = new BulletLanes();
        Check.due("none there", x.emitterOf(0, 0), -1);
        x.emitter(7, 2, 5, 3);
        int[][] wrong = {{-1, 0}, {1, 0}, {4, 0}, {0, -1}, {0, 5}, {Integer.MAX_VALUE, 0}, {0, Integer.MIN_VALUE}};
        for (int[] w : wrong) {
            Check.due("emitterOf(" + w[0] + ", " + w[1] + ")", x.emitterOf(w[0], w[1]), -1);
        }
        int[] due = {7, 2, 5, 3, 3};
        for (int what = 0; what < due.length; what++) {
            Check.due("emitterOf(0, " + what + ")", x.emitterOf(0, what), due[what]);
        }
    }

    private static void ticksToFire() {
        for (int period = 1; period <= 9; period++) {
            for (int phase = 0; phase < period; phase++) {
                BulletLanes x = new BulletLanes();
                x.emitter(0, 0, period, phase);
                for (int passed = 0; passed < 20; passed++) {
                    int due = 1;
                    while ((passed + due) % period != phase) {
                        due++;
                    }
                    Check.due("ticks to fire", x.emitterOf(0, 4), due);
                    int fired = x.count(7);
                    x.tick(0);
                    Check.due("fires then", x.count(7) - fired, due == 1 ? 1 : 0);
                }
            }
        }
    }

    private static void bullet() {
        BulletLanes x = new BulletLanes();
        Check.due("none there", x.bullet(0, 0), -1);
        Check.hang(x, "2w2+1;8l9+2");
        Check.play(x, "sss");
        Check.dueBullet("first", x, 0, 2, 2, 2, 1, 0);
        Check.dueBullet("second", x, 1, 1, 7, 0, 0, 0);
        Check.dueBullet("third", x, 2, 0, 2, 2, 1, 0);
        int[][] wrong = {{-1, 0}, {3, 0}, {0, -1}, {0, 5}, {Integer.MAX_VALUE, 0}, {0, Integer.MIN_VALUE}};
        for (int[] w : wrong) {
            Check.due("bullet(" + w[0] + ", " + w[1] + ")", x.bullet(w[0], w[1]), -1);
        }
        Check.play(x, "sssss");
        Check.due("the second has left", x.count(9), 0);
        x.tick(0);
        Check.due("in the column 0", x.bullet(1, 1), 1);
        Check.play(x, "ss");
        Check.dueBullet("the third is the second then", x, 1, 8, 2, 2, 1, 0);
        Check.due("grazed at first not", x.bullet(0, 4), 0);
    }

    private static void at() {
        BulletLanes x = new BulletLanes();
        int[][] wrong = {{-1, 0}, {12, 0}, {0, -1}, {0, 10}, {Integer.MAX_VALUE, 0}, {0, Integer.MIN_VALUE}};
        for (int[] w : wrong) {
            Check.due("at(" + w[0] + ", " + w[1] + ")", x.at(w[0], w[1]), -1);
        }
        Check.hang(x, "0d9+1;0f9+1;9d9+1");
        x.tick(0);
        Check.due("four in a corner", x.at(0, 0), 4);
        Check.due("one in the other", x.at(0, 9), 1);
        x.tick(0);
        Check.due("gone from there", x.at(0, 0), 0);
        Check.due("two lower", x.at(1, 0), 2);
        Check.due("one aside", x.at(1, 1), 1);
        Check.play(x, "ssssssssss");
        Check.due("in the last row", x.at(11, 0), 2);
        Check.due("in the last corner", x.at(11, 9), 1);
    }

    private static void count() {
        BulletLanes x = new BulletLanes();
        int[] wrong = {-1, 19, 20, Integer.MIN_VALUE, Integer.MAX_VALUE};
        for (int what : wrong) {
            Check.due("count(" + what + ")", x.count(what), -1);
        }
        Check.hang(x, "5f1;0l1");
        Check.play(x, "rsssssssssss");
        x.bomb();
        x.set(0, 1);
        Check.type(x, "xy");
        // The sprite in the column 6: the straight bullets pass beside it.
        Check.dueCounts("all", x, new int[][] {{0, 2}, {2, 6}, {3, 3}, {4, 1}, {5, 12}, {6, 0}, {7, 48}, {8, 0},
            {9, 24}, {10, 0}, {11, 3}, {12, 0}, {13, 2}, {14, 0}, {15, 1}, {16, 2}, {17, 2}, {18, 4}, {1, 21}});
    }
}
