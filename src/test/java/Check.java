/** Counts and prints the answers that are not the ones that are due. */
final class Check {
    private static int wrong = 0;
    private static String sentence = "";

    private Check() {
    }

    /** The document's sentence that the next answers are about; it stands ahead of what is wrong. */
    static void sentence(String words) {
        sentence = "[" + words + "] ";
    }

    static void due(String what, long got, long want) {
        if (got != want) {
            wrong++;
            System.out.println(sentence + what + " answered " + got + ", due is " + want);
        }
    }

    static void dueExactly(String what, double got, double want) {
        if (got != want) {
            wrong++;
            System.out.println(sentence + what + " answered " + got + ", due is " + want);
        }
    }

    static void end() {
        if (wrong != 0) {
            System.out.println(wrong + " answers are not as due");
            System.exit(1);
        }
    }

    /** Puts a text on the pad in place of what was there. */
    static void type(BulletLanes x, String text) {
        x.clear();
        for (int i = 0; i < text.length(); i++) {
            x.append(text.charAt(i));
        }
    }

    static void hang(BulletLanes x, String text) {
        type(x, text);
        if (x.hang() < 0) {
            due("hang of " + text, -1, 0);
        }
    }

    static void play(BulletLanes x, String text) {
        type(x, text);
        due("play of " + text, x.play(), text.length());
    }

    static void dueCounts(String where, BulletLanes x, int[][] pairs) {
        for (int[] pair : pairs) {
            due(where + ": count(" + pair[0] + ")", x.count(pair[0]), pair[1]);
        }
    }

    static void dueBullet(String where, BulletLanes x, int bullet, int... properties) {
        for (int what = 0; what < properties.length; what++) {
            due(where + ": bullet(" + bullet + ", " + what + ")", x.bullet(bullet, what), properties[what]);
        }
    }
}
