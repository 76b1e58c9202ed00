import java.util.ArrayList;
import java.util.List;

/**
 * The document told a second time, as plainly as can be and otherwise than the program does: lists of numbers, new
 * states for each call, texts by patterns, ways by comparing whole ways.
 */
final class Model {
    private static final class State {
        List<int[]> emitters = new ArrayList<>();
        List<int[]> bullets = new ArrayList<>();
        int sprite = 5;
        int shields = 3;
        int bombs = 2;
        int ticks = 0;
        boolean down = false;
        int[] so = new int[15];
        int[] set = {0, 2};

        State copy() {
            State s = new State();
            for (int[] e : emitters) {
                s.emitters.add(e.clone());
            }
            for (int[] b : bullets) {
                s.bullets.add(b.clone());
            }
            s.sprite = sprite;
            s.shields = shields;
            s.bombs = bombs;
            s.ticks = ticks;
            s.down = down;
            s.so = so.clone();
            s.set = set.clone();
            return s;
        }

        // A bullet: row, column, drift, weaves, grazed.
        void fallAndFire() {
            ticks++;
            List<int[]> left = new ArrayList<>();
            for (int[] b : bullets) {
                int to = b[1] + b[2];
                if ((to < 0 || to > 9) && set[0] == 1) {
                    b[2] = -b[2];
                    to = b[1] + b[2];
                }
                b[0]++;
                b[1] = to;
                if (b[3] == 1) {
                    b[2] = -b[2];
                }
                if (to < 0 || to > 9 || b[0] > 11) {
                    left.add(b);
                }
            }
            so[9] += left.size();
            bullets.removeAll(left);
            for (int[] e : emitters) {
                if (ticks % e[2] != e[3]) {
                    continue;
                }
                int aim = sprite < e[0] ? -1 : sprite > e[0] ? 1 : 0;
                int[][] drifts = {{0}, {-1}, {1}, {1}, {aim}, {-1, 0, 1}};
                for (int drift : drifts[e[1]]) {
                    if (bullets.size() < 60) {
                        bullets.add(new int[] {0, e[0], drift, e[1] == 3 ? 1 : 0, 0});
                        so[7]++;
                    } else {
                        so[8]++;
                    }
                }
            }
        }

        int tick(int step) {
            sprite = Math.max(0, Math.min(9, sprite + step));
            fallAndFire();
            int before = bullets.size();
            bullets.removeIf(b -> b[0] == 11 && b[1] == sprite);
            int answer = 0;
            if (bullets.size() < before) {
                so[10] += before - bullets.size();
                so[14]++;
                answer = shields > 0 ? 1 : 2;
                down = shields == 0;
                shields = Math.max(0, shields - 1);
            }
            for (int[] b : bullets) {
                boolean beside = b[0] == 11 && (b[1] == sprite - 1 || b[1] == sprite + 1)
                    || b[0] == 10 && b[1] >= sprite - 1 && b[1] <= sprite + 1;
                if (beside && b[4] == 0 && !down) {
                    b[4] = 1;
                    so[13]++;
                }
            }
            return answer;
        }

        int bomb() {
            bombs--;
            int before = bullets.size();
            int r = set[1];
            bullets.removeIf(b -> b[0] >= 11 - r && b[1] >= sprite - r && b[1] <= sprite + r);
            so[11] += before - bullets.size();
            return before - bullets.size();
        }

        boolean[] freeColumns() {
            boolean[] free = new boolean[10];
            for (int c = 0; c < 10; c++) {
                int column = c;
                free[c] = bullets.stream().noneMatch(b -> b[0] == 11 && b[1] == column);
            }
            return free;
        }
    }

    private State now = new State();
    private State snapshot = null;
    private final List<State> history = new ArrayList<>();
    private String pad = "";

    private void record() {
        history.add(now.copy());
        if (history.size() > 4) {
            history.remove(0);
        }
    }

    private static boolean in(int value, int low, int high) {
        return value >= low && value <= high;
    }

    private boolean[][] forecast(State from, int ticks) {
        State s = from.copy();
        boolean[][] free = new boolean[ticks + 1][];
        free[0] = s.freeColumns();
        for (int t = 1; t <= ticks; t++) {
            s.fallAndFire();
            free[t] = s.freeColumns();
        }
        return free;
    }

    private static int sum(boolean[][] free) {
        int sum = 0;
        for (int t = 1; t < free.length; t++) {
            for (boolean one : free[t]) {
                sum += one ? 1 : 0;
            }
        }
        return sum;
    }

    /** The calmest way to each column at the last tick: how many asides as two digits, then the columns. */
    private String[] waysTo(int ticks) {
        boolean[][] free = forecast(now, ticks);
        String[] ways = new String[10];
        ways[now.sprite] = "00" + now.sprite;
        for (int t = 1; t <= ticks; t++) {
            String[] next = new String[10];
            for (int c = 0; c < 10; c++) {
                for (int from = c - 1; from <= c + 1; from++) {
                    if (!free[t][c] || !in(from, 0, 9) || ways[from] == null) {
                        continue;
                    }
                    int asides = Integer.parseInt(ways[from].substring(0, 2)) + (from == c ? 0 : 1);
                    String way = (asides < 10 ? "0" : "") + asides + ways[from].substring(2) + c;
                    if (next[c] == null || way.compareTo(next[c]) < 0) {
                        next[c] = way;
                    }
                }
            }
            ways = next;
        }
        return ways;
    }

    private String calmest(int ticks) {
        String best = null;
        for (String way : waysTo(ticks)) {
            if (way != null && (best == null || way.compareTo(best) < 0)) {
                best = way;
            }
        }
        return best;
    }

    /** Whether some pad begins with this text: by all ways to go on that could matter. */
    private static boolean begins(String text, int way) {
        if (way == 1) {
            return text.matches("[lsrb]*");
        }
        String[] more = {"", "d1", "0d1", "1", "0"};
        for (String end : more) {
            if (isWhole(text + end, 0)) {
                return true;
            }
        }
        return text.isEmpty();
    }

    private static boolean isWhole(String text, int way) {
        if (way == 1) {
            return text.matches("[lsrb]+");
        }
        String one = "[0-9][dlrwaf]([1-9]|1\\+0|2\\+[01]|3\\+[0-2]|4\\+[0-3]|5\\+[0-4]|6\\+[0-5]|7\\+[0-6]"
            + "|8\\+[0-7]|9\\+[0-8])";
        return text.matches(one + "(;" + one + "){0,3}");
    }

    private int faultOf(int way) {
        for (int i = 0; i < pad.length(); i++) {
            if (!begins(pad.substring(0, i + 1), way)) {
                return i;
            }
        }
        return isWhole(pad, way) ? -4 : pad.length();
    }

    int emitter(int column, int pattern, int period, int phase) {
        if (!in(column, 0, 9) || !in(pattern, 0, 5) || !in(period, 1, 9) || !in(phase, 0, period - 1)) {
            return -1;
        }
        if (now.emitters.size() == 4) {
            return -3;
        }
        record();
        now.emitters.add(new int[] {column, pattern, period, phase});
        return now.emitters.size() - 1;
    }

    int takeAway(int emitter) {
        if (!in(emitter, 0, now.emitters.size() - 1)) {
            return -1;
        }
        record();
        now.emitters.remove(emitter);
        return now.emitters.size();
    }

    int tick(int step) {
        if (!in(step, -1, 1)) {
            return -1;
        }
        if (now.down) {
            return -2;
        }
        record();
        return now.tick(step);
    }

    int bomb() {
        if (now.down || now.bombs == 0) {
            return -2;
        }
        record();
        return now.bomb();
    }

    int clearField() {
        record();
        int gone = now.bullets.size();
        now.bullets.clear();
        now.so[12] += gone;
        now.down = false;
        now.shields = 3;
        now.bombs = 2;
        return gone;
    }

    int set(int what, int value) {
        if (!in(what, 0, 1) || !in(value, what, what == 0 ? 1 : 5)) {
            return -1;
        }
        record();
        int before = now.set[what];
        now.set[what] = value;
        return before;
    }

    int append(int code) {
        if (!in(code, 33, 126)) {
            return -1;
        }
        if (pad.length() == 60) {
            return -3;
        }
        pad += (char) code;
        return pad.length();
    }

    int clear() {
        int before = pad.length();
        pad = "";
        return before;
    }

    int fault(int way) {
        return in(way, 0, 1) ? faultOf(way) : -1;
    }

    int hang() {
        if (faultOf(0) != -4) {
            return -2;
        }
        record();
        now.emitters.clear();
        for (String one : pad.split(";")) {
            int phase = one.length() == 5 ? one.charAt(4) - '0' : 0;
            int pattern = "dlrwaf".indexOf(one.charAt(1));
            now.emitters.add(new int[] {one.charAt(0) - '0', pattern, one.charAt(2) - '0', phase});
        }
        pad = "";
        return now.emitters.size();
    }

    int play() {
        if (faultOf(1) != -4) {
            return -2;
        }
        record();
        int played = 0;
        for (char sign : pad.toCharArray()) {
            if (now.down || sign == 'b' && now.bombs == 0) {
                break;
            }
            if (sign == 'b') {
                now.bomb();
            } else {
                now.tick("lsr".indexOf(sign) - 1);
            }
            played++;
        }
        pad = "";
        return played;
    }

    int emitterOf(int emitter, int what) {
        if (!in(emitter, 0, now.emitters.size() - 1) || !in(what, 0, 4)) {
            return -1;
        }
        int[] e = now.emitters.get(emitter);
        if (what < 4) {
            return e[what];
        }
        int wait = 1;
        while ((now.ticks + wait) % e[2] != e[3]) {
            wait++;
        }
        return wait;
    }

    int bullet(int bullet, int what) {
        if (!in(bullet, 0, now.bullets.size() - 1) || !in(what, 0, 4)) {
            return -1;
        }
        return now.bullets.get(bullet)[what] + (what == 2 ? 1 : 0);
    }

    int at(int row, int column) {
        if (!in(row, 0, 11) || !in(column, 0, 9)) {
            return -1;
        }
        return (int) now.bullets.stream().filter(b -> b[0] == row && b[1] == column).count();
    }

    int count(int what) {
        if (!in(what, 0, 18)) {
            return -1;
        }
        if (in(what, 7, 14)) {
            return now.so[what];
        }
        int[] first = {now.emitters.size(), now.bullets.size(), now.sprite, now.shields, now.bombs, now.ticks,
            now.down ? 1 : 0};
        int[] last = {now.set[0], now.set[1], pad.length(), history.size()};
        return what < 7 ? first[what] : last[what - 15];
    }

    int free(int tick) {
        if (!in(tick, 0, 30)) {
            return -1;
        }
        int bits = 0;
        boolean[] free = forecast(now, tick)[tick];
        for (int c = 9; c >= 0; c--) {
            bits = 2 * bits + (free[c] ? 1 : 0);
        }
        return bits;
    }

    int lane(int tick, int what) {
        if (!in(tick, 0, 30) || !in(what, 0, 2)) {
            return -1;
        }
        StringBuilder signs = new StringBuilder();
        for (boolean one : forecast(now, tick)[tick]) {
            signs.append(one ? 'o' : '.');
        }
        int lanes = 0;
        String widest = "";
        for (String lane : signs.toString().split("\\.+")) {
            lanes += lane.isEmpty() ? 0 : 1;
            widest = lane.length() > widest.length() ? lane : widest;
        }
        if (what == 2) {
            return lanes == 0 ? -4 : signs.indexOf(widest);
        }
        return what == 0 ? lanes : widest.length();
    }

    int ends(int ticks, int way) {
        if (!in(ticks, 1, 30) || !in(way, 0, 1)) {
            return -1;
        }
        int ends = 0;
        for (String one : waysTo(ticks)) {
            ends += one == null ? 0 : 1;
        }
        return ends;
    }

    int way(int ticks, int tick) {
        if (!in(ticks, 1, 30) || !in(tick, 0, ticks)) {
            return -1;
        }
        String best = calmest(ticks);
        return best == null ? -4 : best.charAt(2 + tick) - '0';
    }

    int asides(int ticks) {
        if (!in(ticks, 1, 30)) {
            return -1;
        }
        String best = calmest(ticks);
        return best == null ? -4 : Integer.parseInt(best.substring(0, 2));
    }

    int fair() {
        int fair = 30;
        while (fair > 0 && calmest(fair) == null) {
            fair--;
        }
        return fair;
    }

    int shuts(int ticks) {
        if (!in(ticks, 1, 30)) {
            return -1;
        }
        int best = -2;
        int most = -1;
        for (int e = 0; e < now.emitters.size(); e++) {
            State without = now.copy();
            without.emitters.remove(e);
            int sum = sum(forecast(without, ticks));
            if (sum > most) {
                most = sum;
                best = e;
            }
        }
        return best;
    }

    int ifStepped(int step, int ticks, int what) {
        if (!in(step, -1, 1) || !in(ticks, 1, 30) || !in(what, 0, 2)) {
            return -1;
        }
        if (now.down) {
            return -2;
        }
        State s = now.copy();
        int passed = 0;
        for (int t = 1; t <= ticks && !s.down; t++) {
            s.tick(step);
            passed = t;
        }
        int[] answers = {s.so[14] - now.so[14], s.so[13] - now.so[13], s.down ? passed : -4};
        return answers[what];
    }

    double openness(int ticks) {
        return in(ticks, 1, 30) ? (double) sum(forecast(now, ticks)) / (10 * ticks) : -1.0;
    }

    int undo() {
        if (history.isEmpty()) {
            return -2;
        }
        now = history.remove(history.size() - 1);
        return history.size();
    }

    int save() {
        snapshot = now.copy();
        return now.ticks;
    }

    int restore() {
        if (snapshot == null) {
            return -2;
        }
        record();
        now = snapshot.copy();
        return now.ticks;
    }
}
