/** The boundary sentences of the texts, and of the promises 8 to 12. */
public final class EdgeTextTest {
    private static final String FOUR = "1d2+1;2d2+1;3d2+1;4d2+1";

    public static void main(String[] args) {
        emptyAtFirst();
        sixtyCharacters();
        codes();
        columnDigits();
        letters();
        periodDigits();
        phaseDigits();
        oneToFourEmitters();
        notComplete();
        firstCharacterThatIsWrong();
        fullPads();
        oneOrMoreLetters();
        hangsInPlaceOfAll();
        hangsWithoutAPhase();
        refusedHang();
        playsAllSixty();
        playsUpToTheBomb();
        playsUpToTheTick();
        playsNone();
        refusedPlay();
        Check.end();
    }

    private static int faultOf(int way, String text) {
        BulletLanes x = new BulletLanes();
        Check.type(x, text);
        Check.due("length of '" + text + "'", x.count(17), text.length());
        return x.fault(way);
    }

    private static void dueCurtain(String text, int due) {
        Check.due("'" + text + "'", faultOf(0, text), due);
    }

    private static void dueSteps(String text, int due) {
        Check.due("'" + text + "'", faultOf(1, text), due);
    }

    private static void emptyAtFirst() {
        Check.sentence("There is a pad of at most 60 characters, initially empty");
        BulletLanes x = new BulletLanes();
        Check.due("length", x.count(17), 0);
        Check.due("clear", x.clear(), 0);
        Check.sentence("not complete (also if it is empty), the length of the pad");
        Check.due("as a curtain", x.fault(0), 0);
        Check.due("as steps", x.fault(1), 0);
        Check.due("hang", x.hang(), -2);
        Check.due("play", x.play(), -2);
        Check.due("no state by these", x.count(18), 0);
    }

    private static void sixtyCharacters() {
        Check.sentence("LIMIT_REACHED if it has 60 characters");
        BulletLanes x = new BulletLanes();
        for (int length = 1; length <= 60; length++) {
            Check.due("append", x.append('s'), length);
        }
        Check.due("the 61st", x.append('s'), -3);
        Check.due("the 61st, out of range", x.append(127), -1);
        Check.due("60", x.count(17), 60);
        Check.due("steps still", x.fault(1), -4);
        Check.due("clear", x.clear(), 60);
        Check.due("empty", x.count(17), 0);
        Check.due("the first again", x.append('x'), 1);
        Check.due("none of the old ones", x.fault(1), 0);
    }

    private static void codes() {
        Check.sentence("the character code, 33 to 126");
        for (int code = 0; code <= 300; code++) {
            boolean right = code >= 33 && code <= 126;
            Check.due("append(" + code + ")", new BulletLanes().append(code), right ? 1 : -1);
        }
    }

    private static void columnDigits() {
        Check.sentence("a column");
        for (char sign = 33; sign <= 126; sign++) {
            boolean digit = sign >= '0' && sign <= '9';
            dueCurtain(sign + "d1", digit ? -4 : 0);
            dueCurtain("0d1;" + sign + "d1", digit ? -4 : 4);
        }
        dueCurtain("10d1", 1);
    }

    private static void letters() {
        Check.sentence("one of the letters d (0), l (1), r (2), w (3), a (4), f (5) for the pattern");
        for (char sign = 33; sign <= 126; sign++) {
            BulletLanes x = new BulletLanes();
            Check.type(x, "9" + sign + "9+8");
            int pattern = "dlrwaf".indexOf(sign);
            Check.due("'" + sign + "'", x.fault(0), pattern >= 0 ? -4 : 1);
            Check.due("hang of '" + sign + "'", x.hang(), pattern >= 0 ? 1 : -2);
            Check.due("pattern", x.emitterOf(0, 1), pattern >= 0 ? pattern : -1);
        }
    }

    private static void periodDigits() {
        Check.sentence("a period, one digit 1 to 9");
        for (char sign = 33; sign <= 126; sign++) {
            boolean digit = sign >= '1' && sign <= '9';
            dueCurtain("0d" + sign, digit ? -4 : 2);
            dueCurtain("0d" + sign + "+0", digit ? -4 : 2);
            dueCurtain("0d" + sign + "0", digit ? 3 : 2);
        }
    }

    private static void phaseDigits() {
        Check.sentence("perhaps, \"+\" and a phase, one digit, below the period");
        for (int period = 1; period <= 9; period++) {
            dueCurtain("0d" + period + "+", 5 - 1);
            for (int phase = 0; phase <= 9; phase++) {
                String text = "0d" + period + "+" + phase;
                dueCurtain(text, phase < period ? -4 : 4);
                dueCurtain(text + "0", phase < period ? 5 : 4);
                dueCurtain(text + ";9f9", phase < period ? -4 : 4);
            }
            dueCurtain("0d" + period + "+/", 4);
            dueCurtain("0d" + period + "+:", 4);
            dueCurtain("0d" + period + "++0", 4);
            dueCurtain("0d" + period + "-0", 3);
        }
    }

    private static void oneToFourEmitters() {
        Check.sentence("1 to 4 emitters with \";\" between two");
        String[] some = {"", "5d1", "5d1;5d1", "5d1;5d1;5d1", "5d1;5d1;5d1;5d1"};
        for (int emitters = 0; emitters <= 4; emitters++) {
            dueCurtain(some[emitters], emitters == 0 ? 0 : -4);
            BulletLanes x = new BulletLanes();
            Check.type(x, some[emitters]);
            Check.due("hang", x.hang(), emitters == 0 ? -2 : emitters);
        }
        dueCurtain("5d1;5d1;5d1;5d1;", 15);
        dueCurtain("5d1;5d1;5d1;5d1;5d1", 15);
        dueCurtain(FOUR, -4);
        dueCurtain(FOUR + ";", 23);
        dueCurtain(FOUR + "+", 23);
        dueCurtain(";5d1", 0);
        dueCurtain("5d1;;5d1", 4);
    }

    private static void notComplete() {
        Check.sentence("if there is none, and the pad is not complete, the length of the pad");
        boolean[] whole = {false, false, false, true, false, true};
        for (int length = 0; length <= FOUR.length(); length++) {
            dueCurtain(FOUR.substring(0, length), whole[length % 6] ? -4 : length);
        }
    }

    private static void firstCharacterThatIsWrong() {
        Check.sentence("the position, from 0, of the first character that is wrong");
        for (int at = 0; at < FOUR.length(); at++) {
            dueCurtain(FOUR.substring(0, at) + "~" + FOUR.substring(at + 1), at);
            dueCurtain(FOUR.substring(0, at) + "~", at);
            dueCurtain(FOUR.substring(0, at) + "!~", at);
        }
        for (int at = 0; at < 8; at++) {
            String text = "lsrblsrb".substring(0, at) + "x";
            dueSteps(text, at);
            dueSteps(text + "y", at);
            dueSteps(text + "lsrb", at);
        }
    }

    private static void fullPads() {
        Check.sentence("no pad of that kind, of any length, begins with the characters before it and this character");
        String steps = "lsrblsrblsrblsrblsrblsrblsrblsrblsrblsrblsrblsrblsrblsrblsrb";
        dueSteps(steps, -4);
        dueSteps(steps.substring(0, 59), -4);
        dueSteps(steps.substring(0, 59) + "d", 59);
        dueSteps("B" + steps.substring(1), 0);
        dueCurtain(steps, 0);
        dueCurtain((FOUR + steps).substring(0, 60), 23);
        dueCurtain((FOUR.substring(0, 22) + steps).substring(0, 60), 22);
    }

    private static void oneOrMoreLetters() {
        Check.sentence("Steps: one or more of the letters l, s, r, b");
        dueSteps("", 0);
        for (char sign = 33; sign <= 126; sign++) {
            boolean right = "lsrb".indexOf(sign) >= 0;
            dueSteps("" + sign, right ? -4 : 0);
            dueSteps("s" + sign, right ? -4 : 1);
        }
    }

    private static void hangsInPlaceOfAll() {
        Check.sentence("its emitters come in place of all that there are (bullets stay); the pad is emptied");
        String[] curtains = {"9f9+8", "0d1;9f9+8", "0d1;1l2+1;9f9+8", "0d1;1l2+1;2r3+2;9f9+8"};
        for (int before = 0; before <= 4; before++) {
            for (int emitters = 1; emitters <= 4; emitters++) {
                BulletLanes x = new BulletLanes();
                for (int e = 0; e < before; e++) {
                    x.emitter(4, 0, 1, 0);
                }
                x.tick(0);
                Check.type(x, curtains[emitters - 1]);
                Check.due("hang", x.hang(), emitters);
                Check.dueCounts("hung", x, new int[][] {{0, emitters}, {1, before}, {17, 0}, {7, before}});
                int[] last = {9, 5, 9, 8};
                for (int what = 0; what <= 3; what++) {
                    Check.due("the last one", x.emitterOf(emitters - 1, what), last[what]);
                    Check.due("no more than that", x.emitterOf(emitters, what), -1);
                }
            }
        }
    }

    private static void hangsWithoutAPhase() {
        Check.sentence("a phase ... (0 without it)");
        for (int period = 1; period <= 9; period++) {
            BulletLanes x = new BulletLanes();
            Check.hang(x, "0d9+8;1d" + period);
            Check.due("period", x.emitterOf(1, 2), period);
            Check.due("phase", x.emitterOf(1, 3), 0);
            Check.due("of the other", x.emitterOf(0, 3), 8);
            Check.hang(x, "1d" + period + "+" + (period - 1));
            Check.due("the last phase", x.emitterOf(0, 3), period - 1);
        }
    }

    private static void refusedHang() {
        Check.sentence("NOT_POSSIBLE if the pad has a fault, read as a curtain");
        String[] faulty = {"", "1", "1d", "1d0", "1d1+", "1d1+1", "1d1;", "lsr", "1d1;2d1;3d1;4d1;5d1"};
        for (String text : faulty) {
            BulletLanes x = new BulletLanes();
            x.emitter(7, 0, 1, 0);
            Check.type(x, text);
            Check.due("hang of '" + text + "'", x.hang(), -2);
            Check.dueCounts("'" + text + "'", x, new int[][] {{0, 1}, {17, text.length()}, {18, 1}});
            Check.due("the one that was", x.emitterOf(0, 0), 7);
        }
        BulletLanes x = new BulletLanes();
        Check.type(x, "1d1;");
        Check.due("not complete", x.hang(), -2);
        x.append('2');
        x.append('d');
        x.append('1');
        Check.due("the pad has stayed", x.hang(), 2);
    }

    private static void playsAllSixty() {
        Check.sentence("Plays the steps of the pad, one after the other ... Returns how many are played");
        BulletLanes x = new BulletLanes();
        for (int i = 0; i < 60; i++) {
            x.append(i < 30 ? 'l' : 'r');
        }
        Check.due("sixty", x.play(), 60);
        Check.dueCounts("sixty", x, new int[][] {{2, 9}, {5, 60}, {17, 0}, {18, 1}});
        Check.due("all undone at once", x.undo(), 0);
        Check.dueCounts("none", x, new int[][] {{2, 5}, {5, 0}, {17, 0}});
    }

    private static void playsUpToTheBomb() {
        Check.sentence("up to the first one that is not possible; b (a bomb; that takes no tick)");
        String[] texts = {"b", "bb", "bbb", "bbbs", "sbbsb", "sbbss"};
        int[] played = {1, 2, 2, 2, 4, 5};
        int[] ticks = {0, 0, 0, 0, 2, 3};
        for (int i = 0; i < texts.length; i++) {
            BulletLanes x = new BulletLanes();
            Check.type(x, texts[i]);
            Check.due("play of " + texts[i], x.play(), played[i]);
            int bombs = i == 0 ? 1 : 0;
            Check.dueCounts(texts[i], x, new int[][] {{4, bombs}, {5, ticks[i]}, {17, 0}, {18, 1}});
        }
    }

    private static void playsUpToTheTick() {
        Check.sentence("up to the first one that is not possible (the sprite is down)");
        String[] behind = {"", "s", "b", "l"};
        for (String more : behind) {
            BulletLanes x = new BulletLanes();
            Check.hang(x, "5d1");
            Check.type(x, "sssssssssssssss" + more);
            Check.due("the one that brings it down is played: " + more, x.play(), 15);
            Check.dueCounts(more, x, new int[][] {{2, 5}, {4, 2}, {5, 15}, {6, 1}, {17, 0}, {18, 2}});
        }
        BulletLanes up = new BulletLanes();
        Check.hang(up, "5d1");
        Check.play(up, "ssssssssssssssl");
        Check.due("one that steps away stays up", up.count(6), 0);
    }

    private static void playsNone() {
        Check.sentence("This is one change, also if none is played");
        BulletLanes x = new BulletLanes();
        Check.play(x, "bb");
        Check.type(x, "b");
        Check.due("no bomb", x.play(), 0);
        Check.dueCounts("a change", x, new int[][] {{17, 0}, {18, 2}});
        Check.due("undone", x.undo(), 1);
        Check.due("nothing was different", x.count(4), 0);
        BulletLanes down = new BulletLanes();
        Check.hang(down, "5d1");
        Check.play(down, "sssssssssssssss");
        for (String text : new String[] {"l", "s", "r", "b"}) {
            Check.type(down, text);
            Check.due("down: " + text, down.play(), 0);
            Check.due("emptied", down.count(17), 0);
        }
        Check.due("four changes more", down.count(18), 4);
    }

    private static void refusedPlay() {
        Check.sentence("NOT_POSSIBLE if the pad has a fault, read as steps");
        for (String text : new String[] {"", "x", "lsrbx", "xlsrb", "1d1", "S"}) {
            BulletLanes x = new BulletLanes();
            Check.type(x, text);
            Check.due("play of '" + text + "'", x.play(), -2);
            Check.dueCounts(text, x, new int[][] {{2, 5}, {4, 2}, {5, 0}, {17, text.length()}, {18, 0}});
        }
    }
}
