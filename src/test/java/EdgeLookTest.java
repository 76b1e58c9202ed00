/** The boundary sentences of the promises 1 and 13 to 16. */
public final class EdgeLookTest {
    public static void main(String[] args) {
        aNewObject();
        emittersAndTheirProperties();
        ticksUntilItFires();
        bulletsAndTheirProperties();
        cells();
        numbersOfCount();
        countsThatAreFull();
        accountsGoOn();
        Check.end();
    }

    private static void aNewObject() {
        Check.sentence("Creates an empty field at the tick 0");
        BulletLanes x = new BulletLanes();
        int[] due = {0, 0, 5, 3, 2, 0, 0, 0, 0, 0, 0, 0, 0, 0, 0, 0, 2, 0, 0};
        for (int what = 0; what < due.length; what++) {
            Check.due("count(" + what + ")", x.count(what), due[what]);
        }
        for (int row = 0; row <= 11; row++) {
            for (int column = 0; column <= 9; column++) {
                Check.due("at", x.at(row, column), 0);
            }
        }
        Check.due("no emitter", x.emitterOf(0, 0), -1);
        Check.due("no bullet", x.bullet(0, 0), -1);
        Check.due("no state", x.undo(), -2);
        Check.due("no snapshot", x.restore(), -2);
        Check.due("all columns are free", x.free(0), 1023);
    }

    private static void emittersAndTheirProperties() {
        Check.sentence("If there is no emitter ... of a certain number, this is INVALID_ARGUMENT");
        BulletLanes x = new BulletLanes();
        for (int emitters = 0; emitters <= 4; emitters++) {
            for (int number = -1; number <= 5; number++) {
                boolean there = number >= 0 && number < emitters;
                Check.due(emitters + ": " + number, x.emitterOf(number, 0), there ? 9 - number : -1);
            }
            x.emitter(9 - emitters, 0, 1, 0);
        }
        int[] due = {-1, 6, 0, 1, 0, 1, -1};
        for (int what = -1; what <= 5; what++) {
            Check.due("what " + what, x.emitterOf(3, what), due[what + 1]);
        }
    }

    private static void ticksUntilItFires() {
        Check.sentence("how many ticks it takes until it fires next, 1 or more");
        for (int period = 1; period <= 9; period++) {
            for (int phase = 0; phase < period; phase++) {
                BulletLanes x = new BulletLanes();
                x.emitter(0, 0, period, phase);
                Check.due("at the tick 0: " + period + "+" + phase, x.emitterOf(0, 4), phase == 0 ? period : phase);
                for (int i = x.emitterOf(0, 4); i > 0; i--) {
                    Check.due("each tick one less", x.emitterOf(0, 4), i);
                    Check.due("not yet", x.count(7), 0);
                    x.tick(0);
                }
                Check.due("fired", x.count(7), 1);
                Check.due("then its period", x.emitterOf(0, 4), period);
            }
        }
    }

    private static void bulletsAndTheirProperties() {
        Check.sentence("If there is no ... bullet of a certain number, this is INVALID_ARGUMENT");
        BulletLanes x = new BulletLanes();
        x.emitter(0, 0, 1, 0);
        for (int bullets = 0; bullets <= 12; bullets++) {
            for (int number = -1; number <= 13; number++) {
                boolean there = number >= 0 && number < bullets;
                Check.due(bullets + ": " + number, x.bullet(number, 0), there ? bullets - 1 - number : -1);
            }
            x.tick(0);
        }
        int[] due = {-1, 11, 0, 1, 0, 0, -1};
        for (int what = -1; what <= 5; what++) {
            Check.due("what " + what, x.bullet(0, what), due[what + 1]);
        }
        Check.sentence("its drift, and 1");
        BulletLanes fan = new BulletLanes();
        fan.emitter(4, 5, 1, 0);
        fan.tick(0);
        for (int number = 0; number <= 2; number++) {
            Check.due("drift " + (number - 1), fan.bullet(number, 2), number);
        }
        Check.sentence("numbered from 0 in the order in which they were fired (those that are there)");
        Check.hang(fan, "9r1;0d1");
        fan.tick(0);
        fan.tick(0);
        Check.due("those fired: 3, 2, 2; one has left", fan.count(1), 6);
        int[] columns = {2, 4, 6, 0, 9, 0};
        for (int number = 0; number < columns.length; number++) {
            Check.due("column of " + number, fan.bullet(number, 1), columns[number]);
        }
    }

    private static void cells() {
        Check.sentence("row: 0 to 11, column: 0 to 9");
        for (int row = -2; row <= 13; row++) {
            for (int column = -2; column <= 11; column++) {
                boolean right = row >= 0 && row <= 11 && column >= 0 && column <= 9;
                Check.due("at(" + row + ", " + column + ")", new BulletLanes().at(row, column), right ? 0 : -1);
            }
        }
    }

    private static void numbersOfCount() {
        Check.sentence("count: what");
        for (int what = -3; what <= 22; what++) {
            int got = new BulletLanes().count(what);
            Check.due("count(" + what + ")", got == -1 ? 1 : 0, what >= 0 && what <= 18 ? 0 : 1);
        }
    }

    private static void countsThatAreFull() {
        Check.sentence("count, when all is full");
        BulletLanes x = new BulletLanes();
        Check.hang(x, "4f1;4f1;5f1;5f1");
        Check.play(x, "sssss");
        for (int i = 0; i < 61; i++) {
            x.append('!');
        }
        x.set(0, 1);
        x.set(1, 5);
        x.set(1, 5);
        int[][] due = {{0, 4}, {1, 60}, {7, 60}, {15, 1}, {16, 5}, {17, 60}, {18, 4}};
        Check.dueCounts("full", x, due);
        x.tick(0);
        Check.dueCounts("stifled", x, new int[][] {{0, 4}, {1, 60}, {7, 60}, {8, 12}, {17, 60}, {18, 4}});
    }

    private static void accountsGoOn() {
        Check.sentence("emitters, ticks and accounts go on");
        BulletLanes x = new BulletLanes();
        Check.hang(x, "5d1;0l1");
        Check.play(x, "ssssssssssss");
        Check.due("a bomb", x.bomb(), 2);
        Check.due("cleared", x.clearField(), 10);
        int[] due = {2, 0, 5, 3, 2, 12, 0, 24, 0, 11, 1, 2, 10, 2, 1, 0, 2, 0, 4};
        for (int what = 0; what < due.length; what++) {
            Check.due("count(" + what + ")", x.count(what), due[what]);
        }
    }
}
