/** Promises 8 to 12: the pad, its faults, hanging a curtain and playing steps. */
public final class TextTest {
    public static void main(String[] args) {
        append();
        clear();
        faultArguments();
        curtains();
        everySignOfACurtain();
        steps();
        hang();
        play();
        playStops();
        Check.end();
    }

    private static void append() {
        BulletLanes x = new BulletLanes();
        int[] wrong = {32, 127, 0, -1, 300, Integer.MIN_VALUE, Integer.MAX_VALUE};
        for (int code : wrong) {
            Check.due("append(" + code + ")", x.append(code), -1);
        }
        Check.due("empty still", x.count(17), 0);
        Check.due("append(33)", x.append(33), 1);
        Check.due("append(126)", x.append(126), 2);
        for (int i = 3; i <= 60; i++) {
            Check.due("append", x.append('s'), i);
        }
        Check.due("the 61st", x.append('s'), -3);
        Check.due("the 61st and wrong", x.append(32), -1);
        Check.dueCounts("full", x, new int[][] {{17, 60}, {18, 0}});
    }

    private static void clear() {
        BulletLanes x = new BulletLanes();
        Check.due("clear of an empty pad", x.clear(), 0);
        Check.type(x, "abc");
        Check.due("clear", x.clear(), 3);
        Check.due("clear again", x.clear(), 0);
        Check.dueCounts("no change", x, new int[][] {{17, 0}, {18, 0}});
        Check.due("the next one is the first", x.append('s'), 1);
        Check.due("of these steps", x.fault(1), -4);
    }

    private static void faultArguments() {
        BulletLanes x = new BulletLanes();
        int[] wrong = {-1, 2, Integer.MIN_VALUE, Integer.MAX_VALUE};
        for (int way : wrong) {
            Check.due("fault(" + way + ")", x.fault(way), -1);
        }
    }

    private static void dueFault(int way, String text, int due) {
        BulletLanes x = new BulletLanes();
        Check.type(x, text);
        Check.due("fault(" + way + ") of '" + text + "'", x.fault(way), due);
        Check.due("fault(" + way + ") of '" + text + "' again", x.fault(way), due);
        Check.due("length behind that", x.count(17), text.length());
        if (due >= 0) {
            Check.due("with a fault", way == 0 ? x.hang() : x.play(), -2);
            Check.dueCounts("with a fault", x, new int[][] {{17, text.length()}, {18, 0}, {0, 0}, {5, 0}});
        }
    }

    private static void curtains() {
        String[] whole = {"0d1", "9f9", "5l3+0", "5r3+2", "1d1+0", "3w9+8", "0a1;1d2", "1d1;2d1;3d1;4d1",
            "1d2+1;2d2+1;3d2+1;4d2+1"};
        for (String text : whole) {
            dueFault(0, text, -4);
        }
        String[] begun = {"", "0", "0d", "0d1+", "0d1;", "0d1;1", "0d2+1;", "1d1;2d1;3d1;"};
        for (String text : begun) {
            dueFault(0, text, text.length());
        }
        dueFault(0, "d", 0);
        dueFault(0, ":d1", 0);
        dueFault(0, "/d1", 0);
        dueFault(0, "5D1", 1);
        dueFault(0, "55d1", 1);
        dueFault(0, "5s1", 1);
        dueFault(0, "5d0", 2);
        dueFault(0, "5d:", 2);
        dueFault(0, "5d10", 3);
        dueFault(0, "5d1d", 3);
        dueFault(0, "5d1+1", 4);
        dueFault(0, "5d3+3", 4);
        dueFault(0, "5d3+/", 4);
        dueFault(0, "5d3+2+", 5);
        dueFault(0, "5d3+22", 5);
        dueFault(0, "5d3;;", 4);
        dueFault(0, ";", 0);
        dueFault(0, "1d1;2d1;3d1;4d1;", 15);
        dueFault(0, "1d2+1;2d2+1;3d2+1;4d2+1;5d1", 23);
        dueFault(0, "1d1;2d1;3d1;4d1+1", 16);
    }

    private static void everySignOfACurtain() {
        for (int code = 33; code <= 126; code++) {
            String sign = String.valueOf((char) code);
            dueFault(0, sign, "0123456789".contains(sign) ? 1 : 0);
            dueFault(0, "4" + sign, "dlrwaf".contains(sign) ? 2 : 1);
            dueFault(0, "4d" + sign, "123456789".contains(sign) ? -4 : 2);
            dueFault(0, "4d4" + sign, "+;".contains(sign) ? 4 : 3);
            dueFault(0, "4d4+" + sign, "0123".contains(sign) ? -4 : 4);
            dueFault(0, "4d4+1" + sign, ";".equals(sign) ? 6 : 5);
            dueFault(1, sign, "lsrb".contains(sign) ? -4 : 0);
            dueFault(1, "lrb" + sign, "lsrb".contains(sign) ? -4 : 3);
        }
    }

    private static void steps() {
        dueFault(1, "", 0);
        dueFault(1, "lsrb", -4);
        dueFault(1, "sxx", 1);
        dueFault(1, "S", 0);
        StringBuilder most = new StringBuilder();
        while (most.length() < 60) {
            most.append('b');
        }
        dueFault(1, most.toString(), -4);
        most.setCharAt(59, 'd');
        dueFault(1, most.toString(), 59);
    }

    private static void hang() {
        BulletLanes x = new BulletLanes();
        Check.hang(x, "5d1;5d1;5d1;5d1");
        x.tick(0);
        Check.type(x, "0d1;1l2+1;2r3;3w9+8");
        Check.due("hang", x.hang(), 4);
        Check.dueCounts("hung", x, new int[][] {{0, 4}, {1, 4}, {17, 0}, {18, 3}});
        int[][] due = {{0, 0, 1, 0}, {1, 1, 2, 1}, {2, 2, 3, 0}, {3, 3, 9, 8}};
        for (int e = 0; e < due.length; e++) {
            for (int what = 0; what < 4; what++) {
                Check.due("hung: emitterOf(" + e + ", " + what + ")", x.emitterOf(e, what), due[e][what]);
            }
        }
        Check.type(x, "8a7+6;9f5");
        Check.due("hang in place of those", x.hang(), 2);
        Check.due("aims", x.emitterOf(0, 1), 4);
        Check.due("fans out", x.emitterOf(1, 1), 5);
        Check.due("the others are gone", x.emitterOf(2, 0), -1);
        Check.due("hang of an empty pad", x.hang(), -2);
        Check.type(x, "7d7");
        Check.due("fault does not hang", x.fault(0), -4);
        Check.due("still there", x.emitterOf(0, 0), 8);
        x.undo();
        Check.due("undone", x.count(0), 4);
        Check.due("undo leaves the pad", x.count(17), 3);
    }

    private static void play() {
        BulletLanes x = new BulletLanes();
        Check.type(x, "rrblsx");
        Check.due("with a fault", x.play(), -2);
        Check.dueCounts("with a fault", x, new int[][] {{5, 0}, {17, 6}, {18, 0}});
        Check.type(x, "rrbls");
        Check.due("play", x.play(), 5);
        Check.dueCounts("played", x, new int[][] {{2, 6}, {4, 1}, {5, 4}, {17, 0}, {18, 1}});
        Check.due("play of an empty pad", x.play(), -2);
        x.undo();
        Check.dueCounts("one change", x, new int[][] {{2, 5}, {4, 2}, {5, 0}, {17, 0}, {18, 0}});
    }

    private static void playStops() {
        BulletLanes x = new BulletLanes();
        Check.type(x, "bbbss");
        Check.due("up to the bomb that is not there", x.play(), 2);
        Check.dueCounts("no step behind it", x, new int[][] {{4, 0}, {5, 0}, {17, 0}, {18, 1}});
        Check.type(x, "b");
        Check.due("none is played", x.play(), 0);
        Check.dueCounts("a change all the same", x, new int[][] {{17, 0}, {18, 2}});
        x.clearField();
        Check.hang(x, "5d1");
        Check.type(x, "ssssssssssssssssssss");
        Check.due("up to the tick in which the sprite is down", x.play(), 15);
        Check.dueCounts("down", x, new int[][] {{5, 15}, {6, 1}, {17, 0}});
        Check.type(x, "bl");
        Check.due("nothing when down", x.play(), 0);
        Check.dueCounts("nothing when down", x, new int[][] {{4, 2}, {5, 15}, {17, 0}, {18, 4}});
        Check.type(x, "sq");
        Check.due("a fault when down", x.play(), -2);
    }
}
