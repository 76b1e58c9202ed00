/**
 * "If several errors apply to a call, INVALID_ARGUMENT is returned rather than NOT_POSSIBLE, NOT_POSSIBLE rather than
 * LIMIT_REACHED, and LIMIT_REACHED rather than NOT_FOUND. ... A call that returns an error changes nothing (the pad
 * stays, too)." Each call is refused in states in which other errors apply too; then all that can be seen is told.
 */
public final class RefusedTest {
    private static final int INVALID_ARGUMENT = -1, NOT_POSSIBLE = -2, LIMIT_REACHED = -3, NOT_FOUND = -4;
    private static final int LEAST = Integer.MIN_VALUE, MOST = Integer.MAX_VALUE;

    private static final Whole.Maker[] STATES = {BulletLanes::new, RefusedTest::busy, RefusedTest::full,
        RefusedTest::down};
    private static final String[] NAMES = {"new", "busy", "full", "down"};

    public static void main(String[] args) {
        states();
        for (int state = 0; state < STATES.length; state++) {
            wrongEmitters(state);
            wrongNumbers(state);
            wrongSteps(state);
            wrongSettings(state);
            wrongSigns(state);
            wrongLooks(state);
            wrongLanes(state);
            wrongSpans(state);
        }
        notPossible();
        limitReached();
        notFound();
        answersChangeNothing();
        Check.end();
    }

    /** 3 emitters, bullets, one bomb, 4 states, a snapshot; the pad is neither a curtain nor steps. */
    private static BulletLanes busy() {
        BulletLanes x = new BulletLanes();
        Check.hang(x, "2f2;5w3+1;8a4");
        Check.play(x, "lrlrsssss");
        x.bomb();
        x.save();
        Check.play(x, "rr");
        x.set(1, 3);
        x.tick(0);
        Check.type(x, "1d0");
        return x;
    }

    /** 4 emitters, 60 bullets, a pad of 60 signs that are steps, a history of 4 states, no snapshot, no bomb. */
    private static BulletLanes full() {
        BulletLanes x = new BulletLanes();
        x.set(0, 1);
        Check.play(x, "bb");
        Check.hang(x, "4f1;4f1;5f1;5f1");
        Check.play(x, "sssss");
        for (int i = 0; i < 60; i++) {
            x.append("lsr".charAt(i % 3));
        }
        return x;
    }

    /** The sprite is down; no emitters; the pad is empty. */
    private static BulletLanes down() {
        BulletLanes x = new BulletLanes();
        Check.hang(x, "5d1;4l3");
        Check.play(x, "sssssssssssssss");
        x.save();
        x.takeAway(1);
        x.takeAway(0);
        return x;
    }

    private static void states() {
        int[][] busy = {{0, 3}, {4, 1}, {6, 0}, {17, 3}, {18, 4}};
        int[][] full = {{0, 4}, {1, 60}, {4, 0}, {8, 0}, {17, 60}, {18, 4}};
        int[][] down = {{0, 0}, {3, 0}, {6, 1}, {17, 0}, {18, 4}};
        Check.dueCounts("busy", busy(), busy);
        Check.dueCounts("full", full(), full);
        Check.dueCounts("down", down(), down);
        Check.due("busy has a snapshot", busy().restore(), 9);
        Check.due("full has none", full().restore(), NOT_POSSIBLE);
        Check.due("the pad of full is of steps", full().fault(1), NOT_FOUND);
    }

    private static void refused(int state, String what, Whole.Call call) {
        Whole.dueUnchanged(NAMES[state] + ": " + what, STATES[state], call, INVALID_ARGUMENT);
    }

    private static void wrongEmitters(int state) {
        int[][] wrong = {{-1, 0, 1, 0}, {10, 0, 1, 0}, {LEAST, 0, 1, 0}, {MOST, 0, 1, 0},
            {0, -1, 1, 0}, {0, 6, 1, 0}, {0, LEAST, 1, 0}, {0, MOST, 1, 0},
            {0, 0, 0, 0}, {0, 0, 10, 0}, {0, 0, 10, 9}, {0, 0, LEAST, 0}, {0, 0, MOST, 8}, {0, 0, 0, -1}, {0, 0, -1, -2},
            {0, 0, 1, -1}, {0, 0, 1, 1}, {0, 0, 8, 8}, {0, 0, 9, 9}, {0, 0, 9, -1}, {0, 0, 9, LEAST}, {0, 0, 9, MOST}};
        for (int[] w : wrong) {
            refused(state, "emitter(" + w[0] + ", " + w[1] + ", " + w[2] + ", " + w[3] + ")",
                x -> x.emitter(w[0], w[1], w[2], w[3]));
        }
    }

    private static void wrongNumbers(int state) {
        int emitters = STATES[state].make().count(0);
        int bullets = STATES[state].make().count(1);
        for (int number : new int[] {-1, emitters, LEAST, MOST}) {
            refused(state, "takeAway(" + number + ")", x -> x.takeAway(number));
            for (int what = 0; what <= 4; what++) {
                int property = what;
                refused(state, "emitterOf(" + number + ", " + what + ")", x -> x.emitterOf(number, property));
            }
        }
        for (int number : new int[] {-1, bullets, LEAST, MOST}) {
            for (int what = 0; what <= 4; what++) {
                int property = what;
                refused(state, "bullet(" + number + ", " + what + ")", x -> x.bullet(number, property));
            }
        }
        for (int what : new int[] {-1, 5, LEAST, MOST}) {
            refused(state, "emitterOf(0, " + what + ")", x -> x.emitterOf(0, what));
            refused(state, "bullet(0, " + what + ")", x -> x.bullet(0, what));
        }
    }

    private static void wrongSteps(int state) {
        for (int step : new int[] {-2, 2, LEAST, MOST}) {
            refused(state, "tick(" + step + ")", x -> x.tick(step));
            refused(state, "ifStepped(" + step + ", 1, 0)", x -> x.ifStepped(step, 1, 0));
        }
    }

    private static void wrongSettings(int state) {
        int[][] wrong = {{-1, 1}, {2, 1}, {LEAST, 1}, {MOST, 1}, {0, -1}, {0, 2}, {0, LEAST}, {0, MOST}, {1, 0}, {1, 6},
            {1, -1}, {1, LEAST}, {1, MOST}};
        for (int[] w : wrong) {
            refused(state, "set(" + w[0] + ", " + w[1] + ")", x -> x.set(w[0], w[1]));
        }
    }

    private static void wrongSigns(int state) {
        for (int code : new int[] {32, 127, 0, -1, 256 + 's', 65536 + 's', LEAST, MOST}) {
            refused(state, "append(" + code + ")", x -> x.append(code));
        }
        for (int way : new int[] {-1, 2, LEAST, MOST}) {
            refused(state, "fault(" + way + ")", x -> x.fault(way));
        }
    }

    private static void wrongLooks(int state) {
        int[][] cells = {{-1, 0}, {12, 0}, {LEAST, 0}, {MOST, 0}, {0, -1}, {0, 10}, {0, LEAST}, {0, MOST}, {11, -1},
            {12, 9}, {-1, 9}, {11, 10}};
        for (int[] c : cells) {
            refused(state, "at(" + c[0] + ", " + c[1] + ")", x -> x.at(c[0], c[1]));
        }
        for (int what : new int[] {-1, 19, LEAST, MOST}) {
            refused(state, "count(" + what + ")", x -> x.count(what));
        }
    }

    private static void wrongLanes(int state) {
        for (int tick : new int[] {-1, 31, LEAST, MOST}) {
            refused(state, "free(" + tick + ")", x -> x.free(tick));
            for (int what = 0; what <= 2; what++) {
                int number = what;
                refused(state, "lane(" + tick + ", " + what + ")", x -> x.lane(tick, number));
            }
        }
        for (int what : new int[] {-1, 3, LEAST, MOST}) {
            refused(state, "lane(0, " + what + ")", x -> x.lane(0, what));
            refused(state, "lane(30, " + what + ")", x -> x.lane(30, what));
            refused(state, "ifStepped(0, 1, " + what + ")", x -> x.ifStepped(0, 1, what));
        }
        for (int way : new int[] {-1, 2, LEAST, MOST}) {
            refused(state, "ends(30, " + way + ")", x -> x.ends(30, way));
        }
    }

    private static void wrongSpans(int state) {
        for (int ticks : new int[] {0, -1, 31, LEAST, MOST}) {
            String t = "(" + ticks + ")";
            refused(state, "ends" + t, x -> x.ends(ticks, 0));
            refused(state, "ends backwards" + t, x -> x.ends(ticks, 1));
            refused(state, "way" + t, x -> x.way(ticks, 0));
            refused(state, "asides" + t, x -> x.asides(ticks));
            refused(state, "shuts" + t, x -> x.shuts(ticks));
            refused(state, "ifStepped" + t, x -> x.ifStepped(0, ticks, 2));
            refused(state, "openness" + t, x -> (int) x.openness(ticks));
            Check.dueExactly("openness" + t, STATES[state].make().openness(ticks), -1.0);
        }
        for (int ticks : new int[] {1, 15, 30}) {
            for (int tick : new int[] {-1, ticks + 1, LEAST, MOST}) {
                refused(state, "way(" + ticks + ", " + tick + ")", x -> x.way(ticks, tick));
            }
        }
    }

    private static void notPossible() {
        for (int step = -1; step <= 1; step++) {
            int s = step;
            Whole.dueUnchanged("down: tick(" + s + ")", RefusedTest::down, x -> x.tick(s), NOT_POSSIBLE);
            for (int what = 0; what <= 2; what++) {
                int w = what;
                Whole.dueUnchanged("down: ifStepped, rather than NOT_FOUND", RefusedTest::down,
                    x -> x.ifStepped(s, 30, w), NOT_POSSIBLE);
            }
        }
        Whole.dueUnchanged("down, with bombs: bomb", RefusedTest::down, BulletLanes::bomb, NOT_POSSIBLE);
        Whole.dueUnchanged("up, without a bomb: bomb", RefusedTest::full, BulletLanes::bomb, NOT_POSSIBLE);
        Whole.dueUnchanged("new: hang", BulletLanes::new, BulletLanes::hang, NOT_POSSIBLE);
        Whole.dueUnchanged("new: play", BulletLanes::new, BulletLanes::play, NOT_POSSIBLE);
        Whole.dueUnchanged("steps: hang", RefusedTest::full, BulletLanes::hang, NOT_POSSIBLE);
        Whole.dueUnchanged("faulty: hang", RefusedTest::busy, BulletLanes::hang, NOT_POSSIBLE);
        Whole.dueUnchanged("faulty: play", RefusedTest::busy, BulletLanes::play, NOT_POSSIBLE);
        Whole.dueUnchanged("down, empty pad: play", RefusedTest::down, BulletLanes::play, NOT_POSSIBLE);
        Whole.dueUnchanged("no emitters: shuts(1)", RefusedTest::down, x -> x.shuts(1), NOT_POSSIBLE);
        Whole.dueUnchanged("no emitters: shuts(30)", BulletLanes::new, x -> x.shuts(30), NOT_POSSIBLE);
        Whole.dueUnchanged("new: undo", BulletLanes::new, BulletLanes::undo, NOT_POSSIBLE);
        Whole.dueUnchanged("new: restore", BulletLanes::new, BulletLanes::restore, NOT_POSSIBLE);
        Whole.dueUnchanged("full, no snapshot: restore", RefusedTest::full, BulletLanes::restore, NOT_POSSIBLE);
    }

    private static void limitReached() {
        Whole.dueUnchanged("the fifth emitter", RefusedTest::full, x -> x.emitter(0, 0, 1, 0), LIMIT_REACHED);
        Whole.dueUnchanged("the fifth emitter", RefusedTest::full, x -> x.emitter(9, 5, 9, 8), LIMIT_REACHED);
        Whole.dueUnchanged("the 61st sign", RefusedTest::full, x -> x.append(33), LIMIT_REACHED);
        Whole.dueUnchanged("the 61st sign", RefusedTest::full, x -> x.append(126), LIMIT_REACHED);
    }

    private static void notFound() {
        Whole.dueUnchanged("steps without a fault", RefusedTest::full, x -> x.fault(1), NOT_FOUND);
        Whole.dueUnchanged("not down", RefusedTest::full, x -> x.ifStepped(0, 1, 2), NOT_FOUND);
        Whole.Maker shut = () -> {
            BulletLanes x = new BulletLanes();
            x.set(0, 1);
            Check.hang(x, "2f9+1;3f9+1;6f9+1;7f9+1");
            x.tick(0);
            return x;
        };
        Whole.dueUnchanged("no lane begins", shut, x -> x.lane(11, 2), NOT_FOUND);
        Whole.dueUnchanged("no way", shut, x -> x.way(11, 0), NOT_FOUND);
        Whole.dueUnchanged("no way", shut, x -> x.way(30, 30), NOT_FOUND);
        Whole.dueUnchanged("no asides", shut, x -> x.asides(11), NOT_FOUND);
    }

    /** "looks; nothing is changed" and "lanes, what would be; nothing is changed". */
    private static void answersChangeNothing() {
        for (int state = 0; state < STATES.length; state++) {
            Whole.Call[] looks = {x -> x.emitterOf(0, 4), x -> x.bullet(0, 4), x -> x.at(11, 9), x -> x.count(18),
                x -> x.fault(0), x -> x.fault(1), x -> x.free(0), x -> x.free(30), x -> x.lane(0, 0), x -> x.lane(30, 2),
                x -> x.ends(1, 0), x -> x.ends(30, 1), x -> x.way(1, 1), x -> x.way(30, 30), x -> x.asides(1),
                x -> x.asides(30), BulletLanes::fair, x -> x.shuts(1), x -> x.shuts(30), x -> x.ifStepped(-1, 1, 0),
                x -> x.ifStepped(0, 30, 2), x -> x.ifStepped(1, 30, 1), x -> (int) x.openness(1),
                x -> (int) x.openness(30)};
            for (int look = 0; look < looks.length; look++) {
                Whole.dueSame(NAMES[state] + ": the look " + look, STATES[state], looks[look]);
            }
        }
    }
}
