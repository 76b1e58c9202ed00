/** Promises 17 to 25: lanes and ways of a forecast, and what steps would bring. */
public final class LaneTest {
    public static void main(String[] args) {
        arguments();
        emptyField();
        freeColumns();
        forecastOfAimAndLimit();
        lanes();
        narrowLanes();
        noLane();
        shutAtTheLastTick();
        shutCurtain();
        calmestWay();
        shuts();
        ifStepped();
        openness();
        Check.end();
    }

    private static void arguments() {
        BulletLanes x = new BulletLanes();
        int[] noTick = {-1, 31, Integer.MIN_VALUE, Integer.MAX_VALUE};
        for (int tick : noTick) {
            Check.due("free(" + tick + ")", x.free(tick), -1);
            Check.due("lane(" + tick + ", 0)", x.lane(tick, 0), -1);
        }
        int[] noSpan = {0, -1, 31, Integer.MIN_VALUE, Integer.MAX_VALUE};
        for (int ticks : noSpan) {
            Check.due("ends(" + ticks + ", 0)", x.ends(ticks, 0), -1);
            Check.due("way(" + ticks + ", 0)", x.way(ticks, 0), -1);
            Check.due("asides(" + ticks + ")", x.asides(ticks), -1);
            Check.due("shuts(" + ticks + ")", x.shuts(ticks), -1);
            Check.due("ifStepped(0, " + ticks + ", 0)", x.ifStepped(0, ticks, 0), -1);
            Check.dueExactly("openness(" + ticks + ")", x.openness(ticks), -1.0);
        }
        int[] odd = {Integer.MIN_VALUE, -2, Integer.MAX_VALUE};
        for (int o : odd) {
            Check.due("lane(0, " + o + ")", x.lane(0, o), -1);
            Check.due("ends(1, " + o + ")", x.ends(1, o), -1);
            Check.due("way(1, " + o + ")", x.way(1, o), -1);
            Check.due("ifStepped(" + o + ", 1, 0)", x.ifStepped(o, 1, 0), -1);
            Check.due("ifStepped(0, 1, " + o + ")", x.ifStepped(0, 1, o), -1);
        }
        Check.due("lane(0, 3)", x.lane(0, 3), -1);
        Check.due("lane(0, -1)", x.lane(0, -1), -1);
        Check.due("ends(1, 2)", x.ends(1, 2), -1);
        Check.due("ends(1, -1)", x.ends(1, -1), -1);
        Check.due("way(5, 6)", x.way(5, 6), -1);
        Check.due("way(5, -1)", x.way(5, -1), -1);
        Check.due("ifStepped(2, 1, 0)", x.ifStepped(2, 1, 0), -1);
        Check.due("ifStepped(0, 1, 3)", x.ifStepped(0, 1, 3), -1);
        Check.due("ifStepped(0, 1, -1)", x.ifStepped(0, 1, -1), -1);
        Check.due("shuts without emitters", x.shuts(1), -2);
    }

    private static void emptyField() {
        BulletLanes x = new BulletLanes();
        Check.due("free(30)", x.free(30), 1023);
        Check.due("one lane", x.lane(30, 0), 1);
        Check.due("as wide as the field", x.lane(30, 1), 10);
        Check.due("from the column 0", x.lane(30, 2), 0);
        int[] ends = {3, 5, 7, 9, 10, 10};
        for (int ticks = 1; ticks <= ends.length; ticks++) {
            Check.due("ends forwards", x.ends(ticks, 0), ends[ticks - 1]);
            Check.due("ends backwards", x.ends(ticks, 1), ends[ticks - 1]);
        }
        Check.due("calmest", x.asides(30), 0);
        Check.due("stays", x.way(30, 30), 5);
        Check.due("fair", x.fair(), 30);
        Check.dueExactly("openness", x.openness(30), 1.0);
        Check.dueCounts("nothing changed", x, new int[][] {{5, 0}, {18, 0}});
    }

    private static void freeColumns() {
        BulletLanes x = new BulletLanes();
        Check.hang(x, "0d9+1;3d9+2;9d9+1;9l9+3");
        Check.play(x, "s");
        Check.due("at the tick 10 of the forecast", x.free(10), 1023);
        Check.due("at the tick 11", x.free(11), 1023 - 1 - 512);
        Check.due("at the tick 12", x.free(12), 1023 - 8);
        Check.due("at the tick 13: it has left", x.free(13), 1023);
        x.set(0, 1);
        Check.due("at the tick 13: it has turned", x.free(13), 1023 - 4);
        Check.play(x, "sssssssssss");
        Check.due("now", x.free(0), 1023 - 1 - 512);
        Check.due("one tick on", x.free(1), 1023 - 8);
        x.emitter(0, 0, 1, 0);
        Check.dueCounts("nothing passes", x, new int[][] {{5, 12}, {14, 0}});
    }

    private static void forecastOfAimAndLimit() {
        BulletLanes x = new BulletLanes();
        Check.hang(x, "0a9+1");
        Check.due("aims to the right", x.free(12), 1023);
        x.set(0, 1);
        Check.due("aims to the right and turns", x.free(12), 1023 - 128);
        x.takeAway(0);
        x.emitter(5, 4, 9, 1);
        Check.due("aims at its column", x.free(12), 1023 - 32);
        Check.due("is not hit by that", x.free(13), 1023);

        x = new BulletLanes();
        x.emitter(5, 0, 1, 0);
        Check.play(x, "sssssssssssssss");
        Check.due("down", x.count(6), 1);
        Check.due("a forecast all the same", x.free(5), 1023 - 32);
        Check.due("from the sprite's column", x.ends(3, 0), 6);
        Check.due("from the sprite's column", x.ends(3, 1), 6);
        Check.due("aside at once", x.way(3, 1), 4);
    }

    private static void lanes() {
        BulletLanes x = new BulletLanes();
        Check.hang(x, "0d9+1;3d9+1;6d9+1;9d9+1");
        Check.due("three lanes", x.lane(12, 0), 3);
        Check.due("two wide", x.lane(12, 1), 2);
        Check.due("the lowest", x.lane(12, 2), 1);
        Check.hang(x, "1d9+1;4d9+1;5d9+1");
        Check.due("three lanes", x.lane(12, 0), 3);
        Check.due("four wide", x.lane(12, 1), 4);
        Check.due("the widest, at the right", x.lane(12, 2), 6);
        Check.hang(x, "0d9+1;1d9+1");
        Check.due("one lane", x.lane(12, 0), 1);
        Check.due("eight wide", x.lane(12, 1), 8);
        Check.due("its first column", x.lane(12, 2), 2);
    }

    private static void narrowLanes() {
        BulletLanes x = new BulletLanes();
        x.set(0, 1);
        // As the wall in noLane(), but for the bullets that come down in the column 1, or in 1 and 6.
        Check.hang(x, "2f9+1;3f9+1;6d9+1;7f9+1");
        Check.due("one column", x.free(12), 2);
        Check.due("one lane", x.lane(12, 0), 1);
        Check.due("one wide", x.lane(12, 1), 1);
        Check.due("its column", x.lane(12, 2), 1);
        Check.hang(x, "2f9+1;3f9+1;6l9+1;7f9+1");
        Check.due("two lanes", x.lane(12, 0), 2);
        Check.due("one wide", x.lane(12, 1), 1);
        Check.due("the lower one", x.lane(12, 2), 1);
        Check.due("two ends", x.ends(12, 0), 2);
        Check.due("two ends", x.ends(12, 1), 2);
        Check.due("to the nearer one", x.way(12, 12), 6);
        Check.play(x, "rssssssssssss");
        Check.due("now all columns are free", x.lane(0, 1), 10);
        x.undo();
        Check.play(x, "rsssssssssss");
        Check.due("now, at the tick 0", x.free(0), 2 + 64);
        Check.due("two lanes now", x.lane(0, 0), 2);
        Check.due("the lower one now", x.lane(0, 2), 1);
    }

    private static void shutAtTheLastTick() {
        BulletLanes x = new BulletLanes();
        x.set(0, 1);
        // All four fire together in the tick 19, and not before.
        Check.hang(x, "2f9+1;3f8+3;6f7+5;7f5+4");
        Check.due("shut at the tick 30", x.free(30), 0);
        Check.due("fair for all but the last tick", x.fair(), 29);
        Check.due("a way for 29", x.ends(29, 0) > 0 ? 1 : 0, 1);
        Check.due("none for 30", x.ends(30, 1), 0);
    }

    private static void noLane() {
        BulletLanes x = new BulletLanes();
        x.set(0, 1);
        // Twelve bullets that turn at the walls and come down in all ten columns together.
        Check.hang(x, "2f9+1;3f9+1;6f9+1;7f9+1");
        Check.play(x, "s");
        Check.due("all columns shut", x.free(11), 0);
        Check.due("no lane", x.lane(11, 0), 0);
        Check.due("none is widest", x.lane(11, 1), 0);
        Check.due("none begins", x.lane(11, 2), -4);
        Check.due("fair up to there", x.fair(), 10);
        for (int ticks = 11; ticks <= 30; ticks++) {
            Check.due("no way ends", x.ends(ticks, 0), 0);
            Check.due("no way ends", x.ends(ticks, 1), 0);
            Check.due("no way", x.way(ticks, 0), -4);
            Check.due("no way", x.way(ticks, ticks), -4);
            Check.due("no asides", x.asides(ticks), -4);
        }
        Check.due("a way for ten", x.asides(10), 0);
    }

    private static void shutCurtain() {
        BulletLanes x = new BulletLanes();
        Check.hang(x, "0d1;1d1;2d1");
        Check.play(x, "lllllssssss");
        Check.due("no way for one tick", x.fair(), 0);
        Check.due("no end", x.ends(1, 0), 0);
        Check.due("no end", x.ends(1, 1), 0);
        Check.due("no way, not its first column either", x.way(1, 0), -4);
        Check.due("no asides", x.asides(1), -4);
        x.undo();
        Check.play(x, "lllllsssss");
        Check.due("one tick is left", x.fair(), 1);
        Check.due("two ends", x.ends(1, 0), 2);
        Check.due("two ends", x.ends(1, 1), 2);
        Check.due("none for two", x.ends(2, 0), 0);
        Check.due("none for two", x.ends(2, 1), 0);
        x.undo();
        Check.play(x, "lllssssssss");
        Check.due("from the column 2 there is a way", x.fair(), 30);
        Check.due("aside to the right", x.asides(30), 1);
        Check.due("at once", x.way(30, 1), 3);
        Check.due("from its column", x.way(30, 0), 2);
        x.tick(0);
        Check.due("what has hit shuts no column", x.free(0), 1023 - 3);
    }

    private static void calmestWay() {
        BulletLanes x = new BulletLanes();
        Check.hang(x, "5d9+1");
        Check.play(x, "s");
        Check.due("stays as long as it may", x.asides(10), 0);
        Check.due("one step aside", x.asides(11), 1);
        Check.due("to the left, as early as can be", x.way(11, 1), 4);
        Check.due("then stays", x.way(11, 11), 4);
        Check.due("and goes not back", x.way(18, 18), 4);
        Check.hang(x, "5d1;4d1");
        Check.due("left is farther", x.asides(20), 1);
        Check.due("to the right", x.way(20, 20), 6);
        Check.due("as late as can be, as the lesser column is its own", x.way(20, 10), 5);
        Check.due("aside by the tick 11", x.way(20, 11), 6);
    }

    private static void shuts() {
        BulletLanes x = new BulletLanes();
        Check.hang(x, "0d3;1d1;2d2;3d1");
        Check.due("the lowest of all alike", x.shuts(5), 0);
        Check.due("the one that shuts most, of two the lowest", x.shuts(30), 1);
        Check.hang(x, "0d1;0d1;4d9;7d3");
        Check.due("two in a column shut no more than one", x.shuts(30), 3);
        Check.hang(x, "5r1");
        Check.due("the only one", x.shuts(1), 0);
        x.takeAway(0);
        Check.due("none", x.shuts(30), -2);
        Check.due("none, and wrong", x.shuts(31), -1);
    }

    private static void ifStepped() {
        BulletLanes x = new BulletLanes();
        Check.hang(x, "5d1;6d1");
        Check.play(x, "sssss");
        int[][] stays = {{6, 0, 2, -4}, {7, 1, 4, -4}, {9, 3, 8, -4}, {10, 4, 8, 10}, {30, 4, 8, 10}};
        for (int[] s : stays) {
            for (int what = 0; what < 3; what++) {
                String call = "ifStepped(0, " + s[0] + ", " + what + ")";
                Check.due(call, x.ifStepped(0, s[0], what), s[what + 1]);
            }
        }
        Check.due("to the left: out of it", x.ifStepped(-1, 30, 0), 0);
        Check.due("to the left: no graze", x.ifStepped(-1, 30, 1), 0);
        Check.due("to the left: up", x.ifStepped(-1, 30, 2), -4);
        Check.dueCounts("nothing changed", x, new int[][] {{2, 5}, {5, 5}, {14, 0}, {13, 0}, {18, 2}});
        Check.play(x, "ssssssssss");
        Check.due("down", x.count(6), 1);
        Check.due("when down", x.ifStepped(0, 1, 0), -2);
        Check.due("when down, and wrong", x.ifStepped(0, 0, 0), -1);
        x.clearField();
        Check.due("hits from now on", x.ifStepped(0, 30, 0), 4);
    }

    private static void openness() {
        BulletLanes x = new BulletLanes();
        Check.hang(x, "5d1;6d2");
        Check.play(x, "s");
        Check.dueExactly("open", x.openness(10), 1.0);
        Check.dueExactly("one shut at the last tick", x.openness(11), 109.0 / 110.0);
        Check.dueExactly("then two more", x.openness(12), 117.0 / 120.0);
        Check.dueExactly("the tick 0 is not counted", x.openness(1), 1.0);
        Check.play(x, "ssssssssssr");
        Check.dueExactly("one", x.openness(1), 8.0 / 10.0);
    }
}
