/** All promises: long runs of calls, drawn by a fixed row of numbers, on the program and on the model. */
public final class ModelTest {
    private static final int RUNS = Integer.getInteger("runs", 1500);
    // A pad that is typed behind these, and the counts at the end, come to 512 at most.
    private static final int CALLS = 430;

    private static long seed;

    private ModelTest() {
    }

    public static void main(String[] args) {
        for (int run = 0; run < RUNS; run++) {
            seed = 1000003L * run + 17;
            one(run);
        }
        Check.end();
    }

    /** A number from low to high. */
    private static int draw(int low, int high) {
        seed = seed * 6364136223846793005L + 1442695040888963407L;
        return low + (int) ((seed >>> 33) % (high - low + 1));
    }

    /** Most often from low to high, now and then beside that. */
    private static int about(int low, int high) {
        int kind = draw(0, 60);
        if (kind == 0) {
            return draw(0, 1) == 0 ? Integer.MIN_VALUE : Integer.MAX_VALUE;
        }
        return kind < 3 ? draw(low - 2, high + 2) : draw(low, high);
    }

    private static void one(int run) {
        BulletLanes x = new BulletLanes();
        Model m = new Model();
        int[] odds = new int[27];
        for (int i = 0; i < odds.length; i++) {
            odds[i] = draw(0, 3);
        }
        odds[2] += 6;
        odds[7] += 2;
        for (int calls = 0; calls < CALLS;) {
            int which = draw(0, 26);
            if (draw(0, 8) >= odds[which]) {
                continue;
            }
            calls += call(run, x, m, which);
        }
        for (int what = 0; what <= 18; what++) {
            Check.due("run " + run + ": count(" + what + ")", x.count(what), m.count(what));
        }
    }

    /** Returns how many calls it has made. */
    private static int call(int run, BulletLanes x, Model m, int which) {
        if (which == 6 || which == 7) {
            return type(run, x, m);
        }
        int a;
        int b;
        int c;
        int d;
        String w = "run " + run + ": ";
        switch (which) {
            case 0:
                a = about(0, 9);
                b = about(0, 5);
                c = about(1, 9);
                d = about(0, Math.max(0, Math.min(c, 9) - 1));
                Check.due(w + "emitter", x.emitter(a, b, c, d), m.emitter(a, b, c, d));
                return 1;
            case 1:
                a = about(0, 7);
                Check.due(w + "takeAway", x.takeAway(a), m.takeAway(a));
                return 1;
            case 2:
                a = about(-1, 1);
                Check.due(w + "tick", x.tick(a), m.tick(a));
                return 1;
            case 3:
                Check.due(w + "bomb", x.bomb(), m.bomb());
                return 1;
            case 4:
                if (draw(0, 3) > 0) {
                    return 0;
                }
                Check.due(w + "clearField", x.clearField(), m.clearField());
                return 1;
            case 5:
                a = about(0, 1);
                b = a == 0 ? about(0, 1) : about(1, 5);
                Check.due(w + "set", x.set(a, b), m.set(a, b));
                return 1;
            case 8:
                a = about(0, 1);
                Check.due(w + "fault", x.fault(a), m.fault(a));
                return 1;
            case 9:
                Check.due(w + "hang", x.hang(), m.hang());
                return 1;
            case 10:
                Check.due(w + "play", x.play(), m.play());
                return 1;
            case 11:
                a = about(0, 3);
                b = about(0, 4);
                Check.due(w + "emitterOf", x.emitterOf(a, b), m.emitterOf(a, b));
                return 1;
            case 12:
                a = about(0, Math.max(0, m.count(1) - 1));
                b = about(0, 4);
                Check.due(w + "bullet", x.bullet(a, b), m.bullet(a, b));
                return 1;
            default:
                return look(w, x, m, which);
        }
    }

    private static int look(String w, BulletLanes x, Model m, int which) {
        int a;
        int b;
        int c;
        switch (which) {
            case 13:
                a = about(0, 11);
                b = about(0, 9);
                Check.due(w + "at", x.at(a, b), m.at(a, b));
                return 1;
            case 14:
                a = about(0, 18);
                Check.due(w + "count " + a, x.count(a), m.count(a));
                return 1;
            case 15:
                a = about(0, 30);
                Check.due(w + "free", x.free(a), m.free(a));
                return 1;
            case 16:
                a = about(0, 30);
                b = about(0, 2);
                Check.due(w + "lane", x.lane(a, b), m.lane(a, b));
                return 1;
            case 17:
                a = about(1, 30);
                b = about(0, 1);
                Check.due(w + "ends", x.ends(a, b), m.ends(a, b));
                return 1;
            case 18:
                a = about(1, 30);
                b = about(0, Math.max(0, Math.min(a, 30)));
                Check.due(w + "way", x.way(a, b), m.way(a, b));
                return 1;
            case 19:
                a = about(1, 30);
                Check.due(w + "asides", x.asides(a), m.asides(a));
                return 1;
            case 20:
                Check.due(w + "fair", x.fair(), m.fair());
                return 1;
            case 21:
                a = about(1, 30);
                Check.due(w + "shuts", x.shuts(a), m.shuts(a));
                return 1;
            case 22:
                a = about(-1, 1);
                b = about(1, 30);
                c = about(0, 2);
                Check.due(w + "ifStepped", x.ifStepped(a, b, c), m.ifStepped(a, b, c));
                return 1;
            case 23:
                a = about(1, 30);
                Check.dueExactly(w + "openness", x.openness(a), m.openness(a));
                return 1;
            case 24:
                Check.due(w + "undo", x.undo(), m.undo());
                return 1;
            case 25:
                Check.due(w + "save", x.save(), m.save());
                return 1;
            default:
                if (draw(0, 2) > 0) {
                    return 0;
                }
                Check.due(w + "restore", x.restore(), m.restore());
                return 1;
        }
    }

    private static int type(int run, BulletLanes x, Model m) {
        int calls = 0;
        if (draw(0, 7) > 0) {
            Check.due("run " + run + ": clear", x.clear(), m.clear());
            calls++;
        }
        String text = draw(0, 1) == 0 ? steps() : curtain();
        for (int i = 0; i < text.length(); i++) {
            int code = draw(0, 80) == 0 ? draw(30, 129) : text.charAt(i);
            Check.due("run " + run + ": append", x.append(code), m.append(code));
            calls++;
        }
        return calls;
    }

    private static String steps() {
        StringBuilder text = new StringBuilder();
        int length = draw(0, 15) == 0 ? 60 : draw(0, 16);
        while (text.length() < length) {
            text.append("lsrlsrlsrb".charAt(draw(0, 9)));
        }
        return text.toString();
    }

    private static String curtain() {
        StringBuilder text = new StringBuilder();
        int emitters = draw(0, 20) == 0 ? 5 : draw(1, 4);
        for (int e = 0; e < emitters; e++) {
            text.append(e == 0 ? "" : ";");
            int period = draw(0, 1) == 0 ? draw(1, 3) : draw(1, 9);
            text.append(draw(0, 9)).append("dlrwaf".charAt(draw(0, 5))).append(period);
            if (draw(0, 1) == 0) {
                text.append('+').append(draw(0, 40) == 0 ? period : draw(0, period - 1));
            }
        }
        return text.toString();
    }
}
