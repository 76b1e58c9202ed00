/** The boundary sentences of lanes and ways, and of the promises 17 to 25. */
public final class EdgeLaneTest {
    private static final int ALL = 1023;
    // With TURN, the twelve bullets of one tick come down in all ten columns together.
    private static final String WALL = "2f9+1;3f9+1;6f9+1;7f9+1";

    public static void main(String[] args) {
        ticksOfFree();
        bitsOfColumns();
        theTickZeroIsNow();
        neverHit();
        neverGrazes();
        aimsInAForecast();
        limitInAForecast();
        whenDown();
        noLane();
        oneLane();
        mostLanes();
        severalWidest();
        argumentsOfLane();
        spans();
        endsAtTheWalls();
        endsBetweenBullets();
        firstColumnOfAWay();
        onlyOneBeside();
        crossing();
        calmestIsTheLesser();
        asidesAtTheWalls();
        fairTicks();
        fairAtTheLastTick();
        shutsByTheLastTick();
        shutsOfOneAndFour();
        shutsByEmittersAlone();
        steppedHits();
        steppedGrazes();
        steppedDown();
        steppedAtTheWalls();
        openness();
        Check.end();
    }

    private static BulletLanes hung(int sprite, String curtain) {
        BulletLanes x = new BulletLanes();
        for (int i = 0; i < 9 && x.count(2) != sprite; i++) {
            x.tick(x.count(2) < sprite ? 1 : -1);
        }
        for (int i = x.count(5); i < 9; i++) {
            x.tick(0);
        }
        // The tick 9: phases count from now on.
        Check.due("the tick", x.count(5), 9);
        Check.hang(x, curtain);
        return x;
    }

    private static BulletLanes wall(int sprite) {
        BulletLanes x = hung(sprite, WALL);
        x.set(BulletLanes.TURN, 1);
        return x;
    }

    private static void stay(BulletLanes x, int ticks) {
        for (int i = 0; i < ticks; i++) {
            x.tick(0);
        }
    }

    private static void dueWay(BulletLanes x, int ticks, String columns) {
        for (int tick = 0; tick < columns.length(); tick++) {
            String call = "way(" + ticks + ", " + tick + ")";
            Check.due(call, x.way(ticks, tick), columns.charAt(tick) - '0');
        }
    }

    private static void dueEnds(BulletLanes x, int ticks, int due) {
        Check.due("ends(" + ticks + ", 0)", x.ends(ticks, 0), due);
        Check.due("ends(" + ticks + ", 1)", x.ends(ticks, 1), due);
    }

    private static void ticksOfFree() {
        Check.sentence("0 to 30: a tick of the forecast");
        BulletLanes x = hung(5, "0d9+1");
        for (int tick = -2; tick <= 32; tick++) {
            boolean landed = tick == 12 || tick == 21 || tick == 30;
            int due = tick < 0 || tick > 30 ? -1 : landed ? ALL - 1 : ALL;
            Check.due("free(" + tick + ")", x.free(tick), due);
            Check.due("lane(" + tick + ", 0)", x.lane(tick, 0), due == -1 ? -1 : 1);
            Check.due("lane(" + tick + ", 1)", x.lane(tick, 1), due == -1 ? -1 : landed ? 9 : 10);
            Check.due("lane(" + tick + ", 2)", x.lane(tick, 2), due == -1 ? -1 : landed ? 1 : 0);
        }
    }

    private static void bitsOfColumns() {
        Check.sentence("the free columns as bits (the column c counts 2 to the power of c)");
        int power = 1;
        for (int column = 0; column <= 9; column++) {
            BulletLanes x = new BulletLanes();
            x.emitter(column, 0, 9, 1);
            Check.due("column " + column, x.free(12), ALL - power);
            power *= 2;
        }
    }

    private static void theTickZeroIsNow() {
        Check.sentence("A column is free at a tick of a forecast, if no bullet is in the row 11 ... (The tick 0 is now.)");
        BulletLanes x = hung(5, "0d9+1;9d9+2");
        for (int now = 0; now <= 13; now++) {
            for (int tick = 0; tick + now <= 14; tick++) {
                int at = tick + now;
                int due = at == 12 ? ALL - 1 : at == 13 ? ALL - 512 : ALL;
                Check.due("at " + now + ": free(" + tick + ")", x.free(tick), due);
            }
            x.tick(0);
        }
    }

    private static void neverHit() {
        Check.sentence("a sprite that stays where it is, is never hit");
        BulletLanes x = hung(5, "5d1");
        for (int tick = 0; tick <= 30; tick++) {
            Check.due("free(" + tick + ")", x.free(tick), tick < 12 ? ALL : ALL - 32);
        }
        Check.dueCounts("no hit", x, new int[][] {{1, 0}, {3, 3}, {6, 0}, {7, 0}, {10, 0}, {14, 0}, {5, 9}});
    }

    private static void neverGrazes() {
        Check.sentence("and never grazes");
        BulletLanes x = hung(5, "4d9+1");
        stay(x, 1);
        Check.due("a forecast goes past the sprite", x.free(11), ALL - 16);
        Check.due("not marked", x.bullet(0, 4), 0);
        Check.due("not counted", x.count(13), 0);
        stay(x, 10);
        Check.due("it is grazed when it comes", x.count(13), 1);
    }

    private static void aimsInAForecast() {
        Check.sentence("(those that aim go by that)");
        int[] due = {ALL, ALL - 32, ALL};
        int[] turned = {ALL - 32, ALL - 32, ALL - 4};
        for (int i = 0; i <= 2; i++) {
            BulletLanes x = hung(4 + i, "5a9+1");
            Check.due("sprite in " + (4 + i), x.free(12), due[i]);
            x.set(BulletLanes.TURN, 1);
            // From 5: to the left it turns and comes down in 6; to the right, in 2.
            Check.due("sprite in " + (4 + i) + ", TURN", x.free(12), i == 0 ? ALL - 64 : turned[i]);
        }
    }

    private static void limitInAForecast() {
        Check.sentence("There are at most 60 bullets (in a forecast too)");
        BulletLanes x = hung(5, "4f1;4f1;5f1;5f1");
        x.set(BulletLanes.TURN, 1);
        stay(x, 4);
        Check.due("48", x.count(1), 48);
        Check.hang(x, "0d9+5");
        Check.due("there is room: it comes down", x.free(12), ALL - 1);
        x.undo();
        x.tick(0);
        Check.due("60", x.count(1), 60);
        Check.hang(x, "0d9+6");
        Check.due("there is none: it does not", x.free(12), ALL);
        Check.due("all is free behind the last of the 60", x.free(11) == ALL ? 1 : 0, 0);
        Check.dueCounts("not counted", x, new int[][] {{8, 0}, {7, 60}, {1, 60}});
    }

    private static void whenDown() {
        Check.sentence("lanes, what would be (a sprite that is down)");
        BulletLanes x = hung(5, "5d1");
        stay(x, 15);
        Check.due("down", x.count(6), 1);
        Check.due("free", x.free(1), ALL - 32);
        Check.due("fair", x.fair(), 30);
        dueEnds(x, 1, 2);
        dueEnds(x, 2, 4);
        dueWay(x, 2, "544");
        Check.due("shuts", x.shuts(30), 0);
        Check.due("openness", x.openness(1) == 0.9 ? 1 : 0, 1);
    }

    private static void noLane() {
        Check.sentence("how many columns the widest one has; the first column of that, NOT_FOUND without a lane");
        BulletLanes x = wall(5);
        for (int tick : new int[] {12, 21, 30}) {
            Check.due("free", x.free(tick), 0);
            Check.due("how many", x.lane(tick, 0), 0);
            Check.due("widest", x.lane(tick, 1), 0);
            Check.due("first column", x.lane(tick, 2), -4);
            Check.due("ahead of it: how many", x.lane(tick - 1, 0), 1);
            Check.due("ahead of it: widest", x.lane(tick - 1, 1), 10);
            Check.due("ahead of it: first column", x.lane(tick - 1, 2), 0);
        }
        stay(x, 12);
        Check.due("now the sprite's column alone", x.free(0), 32);
        Check.due("one lane", x.lane(0, 0), 1);
        Check.due("one wide", x.lane(0, 1), 1);
        Check.due("the sprite's", x.lane(0, 2), 5);
    }

    private static void oneLane() {
        Check.sentence("A lane is a row of free columns side by side, as many as possible");
        String[] curtains = {"0d9+1", "9d9+1", "0d9+1;9d9+1", "0d9+1;1d9+1;8d9+1;9d9+1"};
        int[] widths = {9, 9, 8, 6};
        int[] firsts = {1, 0, 1, 2};
        for (int i = 0; i < curtains.length; i++) {
            BulletLanes x = hung(5, curtains[i]);
            Check.due("one lane: " + curtains[i], x.lane(12, 0), 1);
            Check.due("its width: " + curtains[i], x.lane(12, 1), widths[i]);
            Check.due("its first column: " + curtains[i], x.lane(12, 2), firsts[i]);
        }
    }

    private static void mostLanes() {
        Check.sentence("how many lanes there are (five)");
        String[] curtains = {"1d9+1;3d9+1;5d9+1;7d9+1", "2d9+1;4d9+1;6d9+1;8d9+1", "1d9+1;3d9+1;6d9+1;8d9+1"};
        int[] firsts = {8, 0, 4};
        for (int i = 0; i < curtains.length; i++) {
            BulletLanes x = hung(5, curtains[i]);
            Check.due("five: " + curtains[i], x.lane(12, 0), 5);
            Check.due("two wide: " + curtains[i], x.lane(12, 1), 2);
            Check.due("from: " + curtains[i], x.lane(12, 2), firsts[i]);
        }
    }

    private static void severalWidest() {
        Check.sentence("the first column of that, of several the lowest");
        String[] curtains = {"4d9+1;9d9+1", "4d9+1;5d9+1", "0d9+1;5d9+1", "0d9+1;3d9+1;6d9+1;9d9+1"};
        int[] widths = {4, 4, 4, 2};
        int[] firsts = {0, 0, 1, 1};
        for (int i = 0; i < curtains.length; i++) {
            BulletLanes x = hung(5, curtains[i]);
            Check.due("widest: " + curtains[i], x.lane(12, 1), widths[i]);
            Check.due("lowest: " + curtains[i], x.lane(12, 2), firsts[i]);
        }
        Check.due("without a bullet, the column 0", new BulletLanes().lane(0, 2), 0);
    }

    private static void argumentsOfLane() {
        Check.sentence("lane: what");
        for (int what = -2; what <= 4; what++) {
            int due = what == 0 ? 1 : what == 1 ? 10 : what == 2 ? 0 : -1;
            Check.due("lane(0, " + what + ")", new BulletLanes().lane(0, what), due);
            Check.due("lane(30, " + what + ")", new BulletLanes().lane(30, what), due);
        }
    }

    private static void spans() {
        Check.sentence("ticks: 1 to 30");
        for (int ticks = -1; ticks <= 32; ticks++) {
            boolean right = ticks >= 1 && ticks <= 30;
            BulletLanes x = new BulletLanes();
            x.emitter(0, 0, 9, 0);
            // The column 0 is shut when a bullet of the tick 9 or 18 comes down.
            int ends = withinReachOfFive(ticks) - (ticks == 20 || ticks == 29 ? 1 : 0);
            dueEnds(x, ticks, right ? ends : -1);
            Check.due("way(" + ticks + ", 0)", x.way(ticks, 0), right ? 5 : -1);
            Check.due("way(" + ticks + ", " + ticks + ")", x.way(ticks, ticks), right ? 5 : -1);
            Check.due("way(" + ticks + ", one more)", x.way(ticks, ticks + 1), -1);
            Check.due("way(" + ticks + ", -1)", x.way(ticks, -1), -1);
            Check.due("asides(" + ticks + ")", x.asides(ticks), right ? 0 : -1);
            Check.due("shuts(" + ticks + ")", x.shuts(ticks), right ? 0 : -1);
            Check.due("ifStepped(0, " + ticks + ", 0)", x.ifStepped(0, ticks, 0), right ? 0 : -1);
            Check.due("ifStepped(0, " + ticks + ", 2)", x.ifStepped(0, ticks, 2), right ? -4 : -1);
            Check.due("openness(" + ticks + ")", x.openness(ticks) < 0.0 ? -1 : 0, right ? 0 : -1);
        }
        for (int way = -1; way <= 2; way++) {
            Check.due("ends(30, " + way + ")", new BulletLanes().ends(30, way), way == 0 || way == 1 ? 10 : -1);
        }
    }

    private static int withinReachOfFive(int ticks) {
        return Math.min(5, ticks) + 1 + Math.min(4, ticks);
    }

    private static void endsAtTheWalls() {
        Check.sentence("each next one is the same or one beside it (of the columns 0 to 9)");
        for (int sprite : new int[] {0, 9}) {
            BulletLanes x = hung(sprite, "5d9+1");
            for (int ticks = 1; ticks <= 11; ticks++) {
                dueEnds(x, ticks, Math.min(10, ticks + 1));
            }
            dueEnds(x, 12, 9);
            dueEnds(x, 13, 10);
        }
    }

    private static void endsBetweenBullets() {
        Check.sentence("in how many columns a way through the curtain can end");
        BulletLanes x = hung(5, "4d1;6d1");
        dueEnds(x, 11, 10);
        dueEnds(x, 12, 8);
        dueEnds(x, 30, 8);
        stay(x, 11);
        dueEnds(x, 1, 1);
        dueEnds(x, 30, 1);
        Check.due("it stays in its lane", x.asides(30), 0);
        BulletLanes shut = hung(5, "4d1;6d1;5d9+2");
        stay(shut, 11);
        dueEnds(shut, 1, 1);
        dueEnds(shut, 2, 0);
        dueEnds(shut, 30, 0);
        Check.due("fair for one tick", shut.fair(), 1);
        Check.due("way for one tick", shut.way(1, 1), 5);
        Check.due("none for two", shut.way(2, 1), -4);
        Check.due("none for two", shut.asides(2), -4);
    }

    private static void firstColumnOfAWay() {
        Check.sentence("the first one is the sprite's; tick: 0 to ticks; NOT_FOUND if there is no way");
        for (int sprite = 0; sprite <= 9; sprite++) {
            BulletLanes x = hung(sprite, "5d9+1");
            Check.due("the first", x.way(1, 0), sprite);
            Check.due("the first of 30", x.way(30, 0), sprite);
            Check.due("the last of 1", x.way(1, 1), sprite);
        }
        BulletLanes x = wall(5);
        Check.due("a way for 11", x.way(11, 0), 5);
        Check.due("none for 12, not at the tick 0 either", x.way(12, 0), -4);
        Check.due("none for 12", x.way(12, 12), -4);
        Check.due("out of its range all the same", x.way(12, 13), -1);
    }

    private static void onlyOneBeside() {
        Check.sentence("each but the first one is free at its tick; one beside it (not two)");
        String[] curtains = {"0d9+1;1d9+1", "8d9+1;9d9+1", "4d9+1;5d9+1;6d9+1", "0d9+1;1d9+1;2d9+1", "7d9+1;8d9+1;9d9+1"};
        int[] sprites = {0, 9, 5, 1, 8};
        for (int i = 0; i < curtains.length; i++) {
            BulletLanes x = hung(sprites[i], curtains[i]);
            stay(x, 11);
            Check.due("fair: " + curtains[i], x.fair(), 0);
            Check.due("asides: " + curtains[i], x.asides(1), -4);
            Check.due("way: " + curtains[i], x.way(1, 0), -4);
            dueEnds(x, 1, 0);
            x.undo();
            dueEnds(x, 1, i < 2 ? 2 : 3);
            dueEnds(x, 2, i == 2 ? 2 : 1);
        }
    }

    private static void crossing() {
        Check.sentence("(Bullets that cross one's way between two rows do not matter.)");
        // One bullet in the row 10 to the left goes to the right, past the sprite that goes to the left.
        BulletLanes x = new BulletLanes();
        x.set(BulletLanes.TURN, 1);
        Check.hang(x, "6l9+1;4d9+2");
        stay(x, 11);
        Check.due("in the row 10", x.at(10, 4), 1);
        Check.due("the other behind it", x.at(9, 4), 1);
        Check.due("comes down in the sprite's column", x.free(1), ALL - 32);
        Check.due("then in the one beside it", x.free(2), ALL - 16);
        dueWay(x, 1, "54");
        Check.due("aside", x.asides(1), 1);
        dueEnds(x, 1, 2);
        dueEnds(x, 2, 4);
        Check.due("the calmest goes to the right", x.way(2, 1), 6);
    }

    private static void calmestIsTheLesser() {
        Check.sentence("of several the one whose first column at which they differ is the lesser one");
        BulletLanes x = hung(5, "5d9+1");
        stay(x, 8);
        Check.due("one step", x.asides(4), 1);
        dueWay(x, 3, "5555");
        dueWay(x, 4, "54444");
        dueWay(x, 30, "5444444");
        BulletLanes right = hung(5, "5d9+1;4d9+1");
        stay(right, 9);
        Check.due("to the right alone, as late as can be", right.asides(3), 1);
        dueWay(right, 3, "5556");
        dueWay(right, 4, "55566");
        BulletLanes left = hung(5, "5d9+1;6d9+1");
        stay(left, 9);
        dueWay(left, 3, "5444");
        Check.sentence("the calmest one is the one with the fewest steps aside");
        // To the left there is a lesser column at once, but three steps aside; to the right and back are two.
        BulletLanes both = hung(5, "4f9+1;6d9+2;5d9+1");
        both.set(BulletLanes.TURN, 1);
        Check.due("shut at 12", both.free(12), ALL - 16 - 32 - 128 - 8);
        Check.due("shut at 13", both.free(13), ALL - 64);
        Check.due("to the right and back", both.asides(13), 2);
        Check.due("as late as can be", both.way(13, 11), 5);
        Check.due("to the right", both.way(13, 12), 6);
        Check.due("back, which is the lesser column", both.way(13, 13), 5);
    }

    private static void asidesAtTheWalls() {
        Check.sentence("the calmest way, beside a wall");
        String[] curtains = {"0d9+1", "9d9+1", "1d9+1;2d9+1", "7d9+1;8d9+1", "1d9+1", "8d9+1", "1d9+1;0d9+1", "8d9+1;9d9+1"};
        String[] ways = {"01", "98", "10", "89", "10", "87", "12", "87"};
        for (int i = 0; i < curtains.length; i++) {
            BulletLanes x = hung(ways[i].charAt(0) - '0', curtains[i]);
            stay(x, 11);
            dueWay(x, 1, ways[i]);
            Check.due("asides: " + curtains[i], x.asides(1), 1);
            Check.due("asides and no more: " + curtains[i], x.asides(2), 1);
        }
    }

    private static void fairTicks() {
        Check.sentence("the greatest number of ticks, 0 to 30 (0 if there is none for one tick)");
        BulletLanes x = wall(5);
        for (int now = 0; now <= 11; now++) {
            Check.due("ahead of the wall, fair at " + now, x.fair(), 11 - now);
            if (now < 11) {
                dueEnds(x, 11 - now, withinReachOfFive(11 - now));
            }
            dueEnds(x, 12 - now, 0);
            x.tick(0);
        }
        Check.due("up to the next wall", x.fair(), 8);
        Check.due("no curtain", new BulletLanes().fair(), 30);
        BulletLanes one = hung(5, "5d1");
        Check.due("a way aside", one.fair(), 30);
    }

    private static void fairAtTheLastTick() {
        Check.sentence("the greatest number of ticks, 0 to 30 (29)");
        BulletLanes x = new BulletLanes();
        x.set(BulletLanes.TURN, 1);
        Check.hang(x, "2f9+1;3f8+3;6f7+5;7f5+4");
        Check.due("shut at the tick 30", x.free(30), 0);
        Check.due("fair", x.fair(), 29);
        Check.due("asides(29)", x.asides(29) >= 0 ? 1 : 0, 1);
        Check.due("asides(30)", x.asides(30), -4);
        Check.due("way(30, 30)", x.way(30, 30), -4);
        x.tick(0);
        Check.due("a tick later", x.fair(), 28);
        BulletLanes y = new BulletLanes();
        Check.hang(y, "2f9;3f9+8;6f9;7f9");
        y.set(BulletLanes.TURN, 1);
        Check.due("never shut up to 30", y.fair(), 30);
    }

    private static void shutsByTheLastTick() {
        Check.sentence("added up over the ticks 1 to this one, of several the lowest");
        BulletLanes x = hung(5, "0d9+2;1d9+1");
        Check.due("none comes down: the lowest", x.shuts(1), 0);
        Check.due("none comes down: the lowest", x.shuts(11), 0);
        Check.due("that of the emitter 1", x.shuts(12), 1);
        Check.due("both: the lowest", x.shuts(13), 0);
        Check.due("both twice", x.shuts(22), 0);
        Check.due("at the tick 29 still", x.shuts(29), 0);
        Check.due("at the tick 30 the third one", x.shuts(30), 1);
    }

    private static void shutsOfOneAndFour() {
        Check.sentence("shuts: NOT_POSSIBLE without emitters");
        BulletLanes x = new BulletLanes();
        Check.due("none", x.shuts(30), -2);
        Check.due("none, and out of its range", x.shuts(0), -1);
        x.emitter(0, 0, 9, 0);
        Check.due("one", x.shuts(30), 0);
        x.emitter(1, 0, 9, 0);
        x.emitter(2, 0, 9, 0);
        Check.due("alike", x.shuts(30), 0);
        x.emitter(3, 0, 1, 0);
        Check.due("the last of four", x.shuts(30), 3);
        x.takeAway(3);
        x.takeAway(2);
        x.takeAway(1);
        x.takeAway(0);
        Check.due("none again", x.shuts(1), -2);
    }

    private static void shutsByEmittersAlone() {
        Check.sentence("the emitter without which most columns would be free (its bullets stay)");
        BulletLanes x = hung(5, "0d9+2;1d9+1");
        x.tick(0);
        Check.due("the bullet of the emitter 1 is on its way", x.count(1), 1);
        Check.due("it stays", x.shuts(11), 0);
        Check.due("the next one would not come", x.shuts(20), 0);
        Check.due("two of the emitter 0, one of the emitter 1", x.shuts(21), 0);
        Check.due("up to the bullets of the tick 19", x.shuts(29), 0);
        Check.sentence("of several the lowest (each of them shuts no more than the others do)");
        BulletLanes same = hung(5, "0d1;0d1;0d9+5");
        Check.due("all in one column", same.shuts(30), 0);
        Check.hang(same, "0d1;0d1;9d9+5");
        Check.due("the only one that is not shut by another too", same.shuts(30), 2);
    }

    private static void steppedHits() {
        Check.sentence("how many hits there would be");
        BulletLanes x = hung(5, "5d1");
        for (int ticks = 1; ticks <= 30; ticks++) {
            int due = Math.max(0, Math.min(4, ticks - 11));
            Check.due("ifStepped(0, " + ticks + ", 0)", x.ifStepped(0, ticks, 0), due);
        }
        Check.due("aside: none", x.ifStepped(-1, 30, 0), 0);
        Check.due("aside: none", x.ifStepped(1, 30, 0), 0);
        stay(x, 12);
        Check.due("one hit so far", x.count(14), 1);
        Check.due("what is so far is not counted", x.ifStepped(0, 1, 0), 1);
        Check.due("three more", x.ifStepped(0, 30, 0), 3);
    }

    private static void steppedGrazes() {
        Check.sentence("how many grazes");
        BulletLanes x = hung(5, "4d9+1");
        Check.due("ten ticks", x.ifStepped(0, 10, 1), 0);
        Check.due("eleven ticks", x.ifStepped(0, 11, 1), 1);
        Check.due("once", x.ifStepped(0, 12, 1), 1);
        Check.due("each anew", x.ifStepped(0, 30, 1), 3);
        stay(x, 11);
        Check.due("what is so far is not counted", x.ifStepped(0, 1, 1), 0);
        Check.due("the later ones", x.ifStepped(0, 19, 1), 2);
    }

    private static void steppedDown() {
        Check.sentence("how many ticks would pass until the sprite would be down, NOT_FOUND if it would not be");
        BulletLanes x = hung(5, "5d1");
        Check.due("one tick less", x.ifStepped(0, 14, 2), -4);
        Check.due("in the last tick", x.ifStepped(0, 15, 2), 15);
        Check.due("(no further ticks pass)", x.ifStepped(0, 30, 2), 15);
        Check.due("aside", x.ifStepped(1, 30, 2), -4);
        Check.due("grazes up to then", x.ifStepped(0, 30, 1), 4);
        stay(x, 14);
        Check.dueCounts("without a shield", x, new int[][] {{3, 0}, {6, 0}});
        Check.due("at once", x.ifStepped(0, 1, 2), 1);
        Check.due("a hit", x.ifStepped(0, 1, 0), 1);
        Check.due("aside", x.ifStepped(-1, 1, 2), -4);
        x.tick(0);
        Check.sentence("ifStepped: NOT_POSSIBLE if the sprite is down");
        for (int what = 0; what <= 2; what++) {
            Check.due("what " + what, x.ifStepped(0, 1, what), -2);
        }
        Check.due("and out of its range", x.ifStepped(0, 31, 0), -1);
        Check.due("and out of its range", x.ifStepped(0, 1, 3), -1);
        Check.due("and out of its range", x.ifStepped(-2, 1, 0), -1);
    }

    private static void steppedAtTheWalls() {
        Check.sentence("step: -1, 0 or 1, in each tick (it stays, if it would leave the field)");
        BulletLanes x = hung(5, "0d9+1;9d9+1;5d9+1");
        for (int step = -1; step <= 1; step++) {
            Check.due("hit in a corner, or where it is", x.ifStepped(step, 12, 0), 1);
            Check.due("not earlier", x.ifStepped(step, 11, 0), 0);
            Check.due("grazed ahead of it", x.ifStepped(step, 11, 1), 1);
        }
        Check.due("step -2", x.ifStepped(-2, 12, 0), -1);
        Check.due("step 2", x.ifStepped(2, 12, 0), -1);
        for (int what = -1; what <= 3; what++) {
            Check.due("what " + what, x.ifStepped(0, 1, what), what < 0 || what > 2 ? -1 : what == 2 ? -4 : 0);
        }
        Check.due("the sprite has not stepped", x.count(2), 5);
    }

    private static void openness() {
        Check.sentence("as a double, divided by 10 times the ticks; -1.0 if ticks is out of its range");
        int[] wrong = {0, -1, 31, 32, Integer.MIN_VALUE, Integer.MAX_VALUE};
        for (int ticks : wrong) {
            Check.dueExactly("openness(" + ticks + ")", new BulletLanes().openness(ticks), -1.0);
        }
        Check.dueExactly("all free", new BulletLanes().openness(1), 1.0);
        Check.dueExactly("all free", new BulletLanes().openness(30), 1.0);
        BulletLanes x = wall(5);
        Check.dueExactly("up to the wall", x.openness(11), 1.0);
        Check.dueExactly("with the wall", x.openness(12), 110.0 / 120.0);
        Check.dueExactly("three walls", x.openness(30), 270.0 / 300.0);
        Check.dueExactly("two walls", x.openness(29), 270.0 / 290.0);
        stay(x, 11);
        Check.dueExactly("none free", x.openness(1), 0.0);
        Check.dueExactly("half", x.openness(2), 0.5);
        x.tick(0);
        Check.dueExactly("the tick 0 is not counted", x.openness(1), 1.0);
    }
}
