/** The boundary sentences of the field, emitters, bullets, a tick, bombs and settings, and of the promises 1 to 7. */
public final class EdgeFieldTest {
    public static void main(String[] args) {
        cellsOfTheField();
        theSpriteAtFirst();
        fourEmitters();
        numbersOneLess();
        severalInOneColumn();
        phaseBelowThePeriod();
        firesByTheNumberOfTheTick();
        aimsByWhereTheSpriteIs();
        sixtyBullets();
        roomInTheSameTick();
        whatHitsStillHasItsPlace();
        aReusedPlaceIsNotGrazed();
        staysIfItWouldLeave();
        leavesAtTheWalls();
        turnsAtTheWalls();
        weavesAtTheWalls();
        leavesBelow();
        leavesOnlyOnce();
        hitInItsCellAlone();
        hitOnceInATick();
        threeShields();
        downGrazesNothing();
        besideTheSprite();
        grazedOnce();
        twoBombs();
        reachOfABomb();
        clearsNoneAndAll();
        rangesOfSettings();
        Check.end();
    }

    /** A new object with the sprite in a column, and one bullet in the row 0 that is alone. */
    private static BulletLanes shot(int sprite, int column, int pattern) {
        BulletLanes x = new BulletLanes();
        walk(x, sprite);
        shoot(x, column, pattern);
        return x;
    }

    private static void shoot(BulletLanes x, int column, int pattern) {
        int number = x.emitter(column, pattern, 1, 0);
        x.tick(0);
        x.takeAway(number);
    }

    private static void walk(BulletLanes x, int column) {
        for (int i = 0; i < 9 && x.count(2) != column; i++) {
            x.tick(x.count(2) < column ? 1 : -1);
        }
        Check.due("walk", x.count(2), column);
    }

    private static void stay(BulletLanes x, int ticks) {
        for (int i = 0; i < ticks; i++) {
            x.tick(0);
        }
    }

    private static void cellsOfTheField() {
        Check.sentence("12 rows, numbered from 0 at the top, and 10 columns, numbered from 0 from the left");
        for (int column : new int[] {0, 9}) {
            BulletLanes x = shot(5, column, 0);
            for (int row = 0; row <= 11; row++) {
                Check.due("in the row " + row, x.at(row, column), 1);
                Check.due("not in the row before", x.at(row - 1, column), row == 0 ? -1 : 0);
                Check.due("not in the row behind", x.at(row + 1, column), row == 11 ? -1 : 0);
                Check.due("not in the column before", x.at(row, column - 1), column == 0 ? -1 : 0);
                Check.due("not in the column behind", x.at(row, column + 1), column == 9 ? -1 : 0);
                x.tick(0);
            }
            Check.due("gone below the row 11", x.count(1), 0);
        }
    }

    private static void theSpriteAtFirst() {
        Check.sentence("The sprite is in the row 11, in the column 5 at first");
        Check.due("column", new BulletLanes().count(2), 5);
        for (int column = 0; column <= 9; column++) {
            BulletLanes x = shot(5, column, 0);
            for (int row = 1; row <= 11; row++) {
                Check.due("row " + row + ", column " + column, x.tick(0), row == 11 && column == 5 ? 1 : 0);
            }
        }
    }

    private static void fourEmitters() {
        Check.sentence("There are at most 4 emitters");
        BulletLanes x = new BulletLanes();
        Check.due("none", x.count(0), 0);
        for (int number = 0; number <= 3; number++) {
            Check.due("emitter", x.emitter(number, 0, 1, 0), number);
        }
        Check.due("the fifth", x.emitter(4, 0, 1, 0), -3);
        Check.due("four", x.count(0), 4);
        Check.due("one less", x.takeAway(3), 3);
        Check.due("room again", x.emitter(4, 0, 1, 0), 3);
        Check.due("full again", x.emitter(4, 0, 1, 0), -3);
        x.undo();
        Check.due("room by undo", x.emitter(5, 0, 1, 0), 3);
        x.save();
        Check.hang(x, "1d1");
        Check.due("room by hang", x.emitter(6, 0, 1, 0), 1);
        x.restore();
        Check.due("full by restore", x.emitter(7, 0, 1, 0), -3);
        Check.hang(x, "1d1;2d1;3d1;4d1");
        Check.due("full by hang", x.emitter(7, 0, 1, 0), -3);
    }

    private static void numbersOneLess() {
        Check.sentence("when one is taken away, those with greater numbers get numbers that are 1 less");
        for (int gone = 0; gone <= 3; gone++) {
            BulletLanes x = new BulletLanes();
            for (int number = 0; number <= 3; number++) {
                x.emitter(2 * number, number, number + 5, number + 1);
            }
            Check.due("left", x.takeAway(gone), 3);
            for (int number = 0; number <= 2; number++) {
                int was = number < gone ? number : number + 1;
                Check.due("column", x.emitterOf(number, 0), 2 * was);
                Check.due("pattern", x.emitterOf(number, 1), was);
                Check.due("period", x.emitterOf(number, 2), was + 5);
                Check.due("phase", x.emitterOf(number, 3), was + 1);
            }
            Check.due("no number 3", x.emitterOf(3, 0), -1);
        }
    }

    private static void severalInOneColumn() {
        Check.sentence("An emitter is in the row 0 in a column (perhaps several in one)");
        for (int column : new int[] {0, 9}) {
            BulletLanes x = new BulletLanes();
            for (int number = 0; number <= 3; number++) {
                Check.due("emitter", x.emitter(column, 0, 1, 0), number);
            }
            x.tick(0);
            Check.due("all four fire there", x.at(0, column), 4);
        }
    }

    private static void phaseBelowThePeriod() {
        Check.sentence("a period, 1 to 9, and a phase, 0 to 8, below the period");
        for (int period = 0; period <= 10; period++) {
            for (int phase = -1; phase <= 10; phase++) {
                BulletLanes x = new BulletLanes();
                boolean right = period >= 1 && period <= 9 && phase >= 0 && phase < period;
                Check.due(period + "+" + phase, x.emitter(0, 0, period, phase), right ? 0 : -1);
                Check.due(period + "+" + phase + ": emitters", x.count(0), right ? 1 : 0);
            }
        }
        for (int pattern = -1; pattern <= 6; pattern++) {
            boolean right = pattern >= 0 && pattern <= 5;
            Check.due("pattern " + pattern, new BulletLanes().emitter(0, pattern, 1, 0), right ? 0 : -1);
        }
        for (int column = -1; column <= 10; column++) {
            boolean right = column >= 0 && column <= 9;
            Check.due("column " + column, new BulletLanes().emitter(column, 0, 1, 0), right ? 0 : -1);
        }
    }

    private static void firesByTheNumberOfTheTick() {
        Check.sentence("It fires in a tick, if the number of the tick modulo its period is its phase; from 1 on");
        for (int period = 1; period <= 9; period++) {
            for (int phase = 0; phase < period; phase++) {
                BulletLanes x = new BulletLanes();
                x.emitter(0, 0, period, phase);
                Check.due("not at the tick 0", x.count(7), 0);
                for (int tick = 1; tick <= 19; tick++) {
                    int before = x.count(7);
                    x.tick(0);
                    Check.due("the number of the tick", x.count(5), tick);
                    Check.due(period + "+" + phase + " at " + tick, x.count(7) - before, tick % period == phase ? 1 : 0);
                }
            }
        }
        BulletLanes late = new BulletLanes();
        stay(late, 10);
        late.emitter(0, 0, 9, 0);
        stay(late, 7);
        Check.due("one that comes late does not start anew", late.count(7), 0);
        late.tick(0);
        Check.due("it fires in the tick 18", late.count(7), 1);
    }

    private static void aimsByWhereTheSpriteIs() {
        Check.sentence("its drift is -1, 0 or 1, as the sprite is to the left of the emitter's column, in it, or right");
        for (int sprite = 0; sprite <= 9; sprite++) {
            for (int column = 0; column <= 9; column++) {
                BulletLanes x = shot(sprite, column, 4);
                Check.dueBullet(sprite + " from " + column, x, 0, 0, column, Integer.compare(sprite, column) + 1, 0, 0);
            }
        }
        BulletLanes wall = new BulletLanes();
        wall.emitter(5, 4, 1, 0);
        wall.tick(1);
        wall.tick(-1);
        wall.tick(-1);
        Check.due("by the column behind the step: right", wall.bullet(0, 2), 2);
        Check.due("in it", wall.bullet(1, 2), 1);
        Check.due("left", wall.bullet(2, 2), 0);
    }

    private static void sixtyBullets() {
        Check.sentence("There are at most 60 bullets; one that would be more is not fired (it is counted as stifled)");
        BulletLanes x = fullOfBullets(0);
        Check.dueCounts("the 60th is fired", x, new int[][] {{1, 60}, {7, 60}, {8, 0}, {9, 0}});
        Check.due("the last number", x.bullet(59, 0), 0);
        Check.due("no number 60", x.bullet(60, 0), -1);
        x.save();
        Check.due("all 60 are gone", x.clearField(), 60);
        Check.due("and are back", x.undo(), 3);
        Check.due("all of them", x.count(1), 60);
        Check.due("restored", x.restore(), 5);
        Check.due("all of them", x.count(1), 60);
        Check.due("the forecast goes with 60", x.free(0), 1023);

        BulletLanes y = fullOfBullets(1);
        Check.due("60 that turn", y.count(1), 60);
        y.tick(0);
        Check.dueCounts("the 61st to 72nd are stifled", y, new int[][] {{1, 60}, {7, 60}, {8, 12}, {9, 0}});
    }

    /** The tick 5: 60 bullets in the rows 0 to 4, 12 in each; none of them has met a wall. */
    private static BulletLanes fullOfBullets(int turn) {
        BulletLanes x = new BulletLanes();
        x.set(0, turn);
        Check.hang(x, "4f1;4f1;5f1;5f1");
        stay(x, 5);
        return x;
    }

    private static void roomInTheSameTick() {
        Check.sentence("All bullets fall ... 3. Emitters fire, by their numbers (what leaves makes room in the same tick)");
        BulletLanes x = fullOfBullets(0);
        x.tick(0);
        Check.dueCounts("four leave, four are fired, eight are stifled", x, new int[][] {{1, 60}, {7, 64}, {8, 8}, {9, 4}});
        int[] drifts = {0, 1, 2, 0};
        for (int i = 0; i < 4; i++) {
            Check.dueBullet("three of the emitter 0, one of the emitter 1", x, 56 + i, 0, 4, drifts[i], 0, 0);
        }
        Check.due("none of the emitters 2 and 3", x.at(0, 5), 0);
    }

    private static void whatHitsStillHasItsPlace() {
        Check.sentence("3. Emitters fire. 4. If a bullet is in the cell of the sprite ... taken away");
        BulletLanes x = fullOfBullets(1);
        Check.hang(x, "0d9+3");
        stay(x, 6);
        Check.dueCounts("60 ahead of it", x, new int[][] {{1, 60}, {8, 0}, {5, 11}});
        Check.due("a hit", x.tick(0), 1);
        Check.dueCounts("stifled, though two hit", x, new int[][] {{1, 58}, {7, 60}, {8, 1}, {10, 2}});
    }

    private static void aReusedPlaceIsNotGrazed() {
        Check.sentence("A bullet that has not been grazed yet (new ones are not)");
        BulletLanes x = shot(5, 4, 0);
        stay(x, 11);
        Check.due("grazed", x.bullet(0, 4), 1);
        shoot(x, 6, 0);
        Check.due("one alone", x.count(1), 1);
        Check.due("the new one is not", x.bullet(0, 4), 0);
        stay(x, 9);
        Check.due("not in the row 9 either", x.count(13), 1);
        x.tick(0);
        Check.due("in the row 10 it is", x.count(13), 2);
    }

    private static void staysIfItWouldLeave() {
        Check.sentence("it stays, if it would leave the field");
        BulletLanes x = new BulletLanes();
        for (int column = 6; column <= 9; column++) {
            x.tick(1);
            Check.due("to the right", x.count(2), column);
        }
        Check.due("a tick all the same", x.tick(1), 0);
        Check.dueCounts("stays", x, new int[][] {{2, 9}, {5, 5}});
        for (int column = 8; column >= 0; column--) {
            x.tick(-1);
            Check.due("to the left", x.count(2), column);
        }
        Check.due("a tick all the same", x.tick(-1), 0);
        Check.dueCounts("stays", x, new int[][] {{2, 0}, {5, 15}});
        x.tick(0);
        Check.dueCounts("stays", x, new int[][] {{2, 0}, {5, 16}});
    }

    private static void leavesAtTheWalls() {
        Check.sentence("A bullet that would be beyond the columns 0 to 9 leaves");
        int[][] shots = {{1, 1, 0}, {8, 2, 9}};
        for (int[] s : shots) {
            BulletLanes x = shot(5, s[0], s[1]);
            x.tick(0);
            Check.dueBullet("in the last column", x, 0, 1, s[2]);
            Check.due("none has left", x.count(9), 0);
            x.tick(0);
            Check.dueCounts("left", x, new int[][] {{1, 0}, {9, 1}});
            for (int column = 0; column <= 9; column++) {
                Check.due("nowhere", x.at(2, column), 0);
            }
        }
    }

    private static void turnsAtTheWalls() {
        Check.sentence("with the setting TURN as 1, its drift is turned round ahead of it (and it goes to the other side)");
        int[][] shots = {{1, 1, 0, 0, 1, 2}, {8, 2, 9, 2, 8, 0}};
        for (int[] s : shots) {
            BulletLanes x = shot(5, s[0], s[1]);
            x.set(BulletLanes.TURN, 1);
            x.tick(0);
            Check.dueBullet("not turned in the last column", x, 0, 1, s[2], s[3], 0, 0);
            x.tick(0);
            Check.dueBullet("turned", x, 0, 2, s[4], s[5], 0, 0);
            x.tick(0);
            Check.dueBullet("goes on", x, 0, 3, s[4] + s[5] - 1, s[5], 0, 0);
            Check.due("none has left", x.count(9), 0);
        }
    }

    private static void weavesAtTheWalls() {
        Check.sentence("A bullet that weaves turns its drift round behind each fall");
        int[] zigzag = {8, 9, 8, 9, 8, 9, 8, 9, 8, 9, 8, 9};
        BulletLanes x = shot(5, 8, 3);
        for (int row = 0; row <= 11; row++) {
            Check.dueBullet("does not leave", x, 0, row, zigzag[row], row % 2 == 0 ? 2 : 0, 1);
            x.tick(0);
        }
        BulletLanes leaves = shot(5, 9, 3);
        leaves.tick(0);
        Check.dueCounts("leaves at once", leaves, new int[][] {{1, 0}, {9, 1}});
        BulletLanes turns = shot(5, 9, 3);
        turns.set(BulletLanes.TURN, 1);
        turns.tick(0);
        Check.dueBullet("turned at the wall and behind the fall", turns, 0, 1, 8, 2, 1);
        turns.tick(0);
        Check.dueBullet("back in the last column", turns, 0, 2, 9, 0, 1);
        BulletLanes left = shot(5, 0, 3);
        left.tick(0);
        Check.dueBullet("to the right first", left, 0, 1, 1, 0, 1);
        left.tick(0);
        Check.dueBullet("and back to the column 0", left, 0, 2, 0, 2, 1);
    }

    private static void leavesBelow() {
        Check.sentence("A bullet that would be below the row 11 leaves");
        BulletLanes x = shot(5, 0, 0);
        stay(x, 11);
        Check.dueCounts("in the row 11", x, new int[][] {{1, 1}, {9, 0}});
        Check.due("there", x.bullet(0, 0), 11);
        x.tick(0);
        Check.dueCounts("left", x, new int[][] {{1, 0}, {9, 1}});
    }

    private static void leavesOnlyOnce() {
        Check.sentence("9: that left (below and beyond a wall at once)");
        for (int turn = 0; turn <= 1; turn++) {
            BulletLanes x = new BulletLanes();
            x.set(0, 1);
            shoot(x, 7, 2);
            stay(x, 11);
            Check.dueBullet("in the corner, towards the wall", x, 0, 11, 0, 0);
            x.set(0, turn);
            x.tick(0);
            Check.dueCounts("once, TURN " + turn, x, new int[][] {{1, 0}, {9, 1}});
        }
    }

    private static void hitInItsCellAlone() {
        Check.sentence("If a bullet is in the cell of the sprite, the sprite is hit");
        for (int sprite : new int[] {0, 1, 5, 8, 9}) {
            for (int column = 0; column <= 9; column++) {
                BulletLanes x = shot(sprite, column, 0);
                stay(x, 10);
                Check.due("not in the row 10", x.count(14), 0);
                Check.due("sprite " + sprite + ", column " + column, x.tick(0), sprite == column ? 1 : 0);
                Check.due("what has hit is gone", x.count(1), sprite == column ? 0 : 1);
            }
        }
        BulletLanes into = shot(5, 6, 0);
        stay(into, 10);
        Check.due("steps into it", into.tick(1), 1);
        BulletLanes away = shot(5, 5, 0);
        stay(away, 10);
        Check.due("steps away", away.tick(1), 0);
        BulletLanes wall = shot(9, 9, 0);
        stay(wall, 10);
        Check.due("cannot step away", wall.tick(1), 1);
    }

    private static void hitOnceInATick() {
        Check.sentence("(once in a tick, however many there are): all bullets there are taken away");
        BulletLanes x = new BulletLanes();
        Check.hang(x, "5d9+1;5d9+1;5d9+1;5d9+1");
        stay(x, 11);
        Check.due("hit", x.tick(0), 1);
        Check.dueCounts("four at once", x, new int[][] {{14, 1}, {10, 4}, {3, 2}, {9, 0}, {1, 4}});
        Check.due("none is left there", x.at(11, 5), 0);
    }

    private static void threeShields() {
        Check.sentence("a shield is used up; without one it is down. There are 3 shields at first");
        BulletLanes x = new BulletLanes();
        Check.hang(x, "5d1");
        stay(x, 11);
        for (int left = 2; left >= 0; left--) {
            Check.due("hit", x.tick(0), 1);
            Check.dueCounts("up still", x, new int[][] {{3, left}, {6, 0}, {14, 3 - left}});
        }
        Check.due("without a shield", x.tick(0), 2);
        Check.dueCounts("down", x, new int[][] {{3, 0}, {6, 1}, {14, 4}, {10, 4}, {5, 15}});
        Check.sentence("A sprite that is down is hit no more, and steps no more");
        Check.due("tick", x.tick(1), -2);
        Check.dueCounts("as before", x, new int[][] {{2, 5}, {3, 0}, {6, 1}, {14, 4}, {5, 15}});
        Check.due("cleared", x.clearField(), 11);
        Check.dueCounts("up with 3 shields", x, new int[][] {{3, 3}, {6, 0}, {4, 2}, {2, 5}});
    }

    private static void downGrazesNothing() {
        Check.sentence("A sprite that is down ... grazes nothing");
        BulletLanes x = new BulletLanes();
        // The straight ones hit in the ticks 12 to 15; the other is in the row 10 beside the sprite in the tick 15.
        Check.hang(x, "5d1;4d9+5");
        stay(x, 14);
        Check.due("four of the straight ones are grazed", x.count(13), 4);
        Check.due("down", x.tick(0), 2);
        Check.due("neither of the two in the row 10", x.count(13), 4);
        for (int bullet = 0; bullet < x.count(1); bullet++) {
            Check.due("none that is there", x.bullet(bullet, 4), 0);
        }
        BulletLanes up = new BulletLanes();
        Check.hang(up, "5d1;4d9+4");
        stay(up, 14);
        Check.due("hit, but not down, it grazes", up.count(13), 5);
    }

    private static void besideTheSprite() {
        Check.sentence("side by side in its row, or in the row 10 in its column or one beside that");
        for (int sprite : new int[] {0, 1, 5, 8, 9}) {
            for (int column = 0; column <= 9; column++) {
                int apart = Math.abs(column - sprite);
                BulletLanes x = shot(sprite, column, 0);
                stay(x, 9);
                Check.due("not in the row 9", x.count(13), 0);
                x.tick(0);
                Check.due("row 10: " + column + " by " + sprite, x.count(13), apart <= 1 ? 1 : 0);
                Check.due("row 10: it is marked", x.bullet(0, 4), apart <= 1 ? 1 : 0);
            }
        }
        for (int apart = 2; apart <= 3; apart++) {
            for (int side = -1; side <= 1; side += 2) {
                BulletLanes x = shot(5, 5 + side * apart, 0);
                stay(x, 10);
                Check.due("not in the row 10", x.count(13), 0);
                x.tick(side);
                Check.due("row 11, then " + (apart - 1) + " apart", x.count(13), apart == 2 ? 1 : 0);
            }
        }
        BulletLanes far = shot(5, 7, 0);
        stay(far, 11);
        Check.due("row 11, two apart", far.count(13), 0);
    }

    private static void grazedOnce() {
        Check.sentence("is grazed: this is counted once for each bullet");
        BulletLanes x = shot(5, 4, 0);
        stay(x, 10);
        Check.due("in the row 10", x.count(13), 1);
        x.tick(0);
        Check.due("in the row 11 no more", x.count(13), 1);
        BulletLanes two = new BulletLanes();
        Check.hang(two, "4d9+1;4d9+1;6d9+1;5d9+1");
        stay(two, 11);
        Check.due("four at once", two.count(13), 4);
        Check.due("then a hit", two.tick(0), 1);
        Check.due("and no more", two.count(13), 4);
    }

    private static void twoBombs() {
        Check.sentence("There are 2 bombs at first");
        BulletLanes x = new BulletLanes();
        for (int left = 1; left >= 0; left--) {
            Check.due("a bomb that finds none", x.bomb(), 0);
            Check.dueCounts("used up", x, new int[][] {{4, left}, {11, 0}, {5, 0}});
        }
        Check.due("the third", x.bomb(), -2);
        Check.dueCounts("none", x, new int[][] {{4, 0}, {18, 2}});
        x.clearField();
        Check.due("2 again", x.count(4), 2);
        Check.due("one of them", x.bomb(), 0);
    }

    private static void reachOfABomb() {
        Check.sentence("A bomb takes away all bullets in the rows 11 - reach to 11 and the columns within reach");
        for (int sprite : new int[] {0, 5, 9}) {
            for (int reach = 1; reach <= 5; reach++) {
                BulletLanes x = new BulletLanes();
                walk(x, sprite);
                x.set(BulletLanes.BLAST, reach);
                int side = sprite == 9 ? -1 : 1;
                int in = sprite + side * reach;
                int out = in + side;
                in = Math.min(9, in);
                Check.hang(x, curtain(in, out, sprite - side));
                // Rows 0 to 10 are filled, and the row 11 beside the sprite.
                stay(x, 12);
                Check.due("the row 11 is not empty", x.at(11, in), 1);
                bombAndLook(x, sprite, reach);
            }
        }
    }

    private static String curtain(int... columns) {
        StringBuilder text = new StringBuilder();
        for (int column : columns) {
            if (column >= 0 && column <= 9) {
                text.append(text.length() == 0 ? "" : ";").append(column).append("d1");
            }
        }
        return text.toString();
    }

    private static void bombAndLook(BulletLanes x, int sprite, int reach) {
        int[][] before = new int[12][10];
        int due = 0;
        for (int row = 0; row <= 11; row++) {
            for (int column = 0; column <= 9; column++) {
                before[row][column] = x.at(row, column);
                if (row >= 11 - reach && column >= sprite - reach && column <= sprite + reach) {
                    due += before[row][column];
                    before[row][column] = 0;
                }
            }
        }
        Check.due("taken away", x.bomb(), due);
        Check.due("counted", x.count(11), due);
        for (int row = 0; row <= 11; row++) {
            for (int column = 0; column <= 9; column++) {
                Check.due("row " + row + ", column " + column, x.at(row, column), before[row][column]);
            }
        }
    }

    private static void clearsNoneAndAll() {
        Check.sentence("Returns how many bullets are gone");
        BulletLanes x = new BulletLanes();
        Check.due("none", x.clearField(), 0);
        Check.dueCounts("none", x, new int[][] {{12, 0}, {18, 1}});
        BulletLanes full = fullOfBullets(0);
        Check.due("all", full.clearField(), 60);
        Check.dueCounts("all", full, new int[][] {{1, 0}, {12, 60}, {0, 4}, {5, 5}, {7, 60}});
        Check.due("none is left", full.clearField(), 0);
        Check.due("no bullet 0", full.bullet(0, 0), -1);
    }

    private static void rangesOfSettings() {
        Check.sentence("TURN (0 or 1; 0), BLAST (1 to 5; 2)");
        for (int value = -1; value <= 6; value++) {
            BulletLanes x = new BulletLanes();
            Check.due("TURN " + value, x.set(BulletLanes.TURN, value), value == 0 || value == 1 ? 0 : -1);
            Check.due("TURN then", x.count(15), value == 1 ? 1 : 0);
            BulletLanes y = new BulletLanes();
            boolean right = value >= 1 && value <= 5;
            Check.due("BLAST " + value, y.set(BulletLanes.BLAST, value), right ? 2 : -1);
            Check.due("BLAST then", y.count(16), right ? value : 2);
        }
        Check.due("no setting -1", new BulletLanes().set(-1, 1), -1);
        Check.due("no setting 2", new BulletLanes().set(2, 1), -1);
    }
}
