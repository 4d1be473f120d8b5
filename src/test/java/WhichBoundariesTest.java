/** The sentences on what was SEEN, WHICH and ASK (promises 18 to 21), each at its edges. */
public final class WhichBoundariesTest {
    private static final int BAD = Check.BAD, FULL = Check.FULL, NONE = Check.NONE;
    private static final int LEAST = Check.LEAST, MOST = Check.MOST;
    /** Under their dips, lying: 0 2 4 6 8; 0 4 8 12 16; nothing at all. */
    private static final String THREE = "cask1 2 2;cask2 2 2;cask1 1 1;";

    public static void main(String[] args) {
        seen();
        forgotten();
        whichWithoutSeen();
        whichAtItsEdges();
        whichOfAll();
        whichWhenAsked();
        whichLying();
        askOfOneAtMost();
        askAlike();
        askTheLeast();
        askUpTo999();
        askOfThese();
        Check.end("which boundaries");
    }

    private static void seen() {
        Check.sentence("SEEN (6 at most; n 0 .. 99999, y 0 .. 40): how much there is. FULL: 6");
        CaskGauge x = new CaskGauge();
        int[][] bad = {{-1, 0}, {100000, 0}, {0, -1}, {0, 41}, {LEAST, 0}, {MOST, 0}, {0, LEAST}, {0, MOST}, {-1, 41}, {100000, -1}};
        int[][] well = {{0, 0}, {99999, 40}, {0, 40}, {99999, 0}, {5, 5}, {5, 5}};
        for (int i = 0; i < well.length; i++) {
            for (int[] one : bad) {
                Check.due(x, BAD, "sees", one);
            }
            Check.due(x, i, "count", 3);
            Check.due(x, i + 1, "sees", well[i]);
        }
        Check.due(x, FULL, "sees", 0, 0);
        Check.due(x, FULL, "sees", 99999, 40);
        Check.due(x, BAD, "sees", 100000, 40);
        Check.due(x, BAD, "sees", 0, 41);
        Check.due(x, 6, "count", 3);
    }

    private static void forgotten() {
        Check.sentence("Nothing is SEEN: how much was");
        CaskGauge x = Check.told(THREE);
        Check.due(x, 0, "forget");
        for (int many = 1; many <= 6; many++) {
            for (int i = 0; i < many; i++) {
                x.sees(3, 2);
            }
            Check.due(x, 1, "which");
            Check.due(x, many, "forget");
            Check.due(x, 0, "count", 3);
            Check.due(x, 7, "which");
        }
        Check.due(x, 0, "forget");
        Check.due(x, 1, "sees", 3, 1);
        Check.due(x, 2, "which");
    }

    private static void whichWithoutSeen() {
        Check.sentence("WHICH, nothing SEEN: all that there are, as bits");
        String four = "cask1 2 2;cask2 2 2;cask1 1 1;cask9 9 9;";
        for (int many = 0; many <= 4; many++) {
            CaskGauge x = Check.told(four.substring(0, 10 * many));
            Check.due(x, (1 << many) - 1, "which");
        }
        CaskGauge x = new CaskGauge();
        x.sees(0, 0);
        Check.due(x, 0, "which");
    }

    private static int whichBy(String text, int n, int y) {
        CaskGauge x = Check.told(text);
        x.sees(n, y);
        return x.which();
    }

    private static void whichAtItsEdges() {
        Check.sentence("SEEN: an unknown CASK has a DIP of y when n is in it");
        int[][] runs = {{0, 0, 7}, {0, 1, 0}, {1, 0, 0}, {1, 1, 3}, {2, 1, 3}, {3, 1, 2}, {3, 2, 1}, {4, 1, 2}, {4, 2, 1}, {5, 2, 2},
            {5, 3, 1}, {8, 4, 1}, {8, 2, 2}, {16, 4, 2}, {16, 3, 0}, {16, 5, 0}};
        for (int[] run : runs) {
            Check.due("which() of " + run[0] + ", " + run[1], whichBy(THREE, run[0], run[1]), run[2]);
        }
        Check.sentence("SEEN: (n is HOLD at most)");
        for (int y = 0; y <= 40; y++) {
            Check.due("which() of 8, " + y, whichBy("cask1 2 2;", 8, y), y == 4 ? 1 : 0);
            Check.due("which() of 9, " + y, whichBy("cask1 2 2;", 9, y), 0);
            Check.due("which() of 1, " + y, whichBy("cask1 1 1;", 1, y), 0);
            Check.due("which() of 14544, " + y, whichBy("cask12 20 20;", 14544, y), y == 40 ? 1 : 0);
            Check.due("which() of 14448, " + y, whichBy("cask12 20 20;", 14448, y), y == 39 ? 1 : 0);
            Check.due("which() of 14449, " + y, whichBy("cask12 20 20;", 14449, y), y == 40 ? 1 : 0);
            Check.due("which() of 14545, " + y, whichBy("cask12 20 20;", 14545, y), 0);
            Check.due("which() of 99999, " + y, whichBy("cask12 20 20;", 99999, y), 0);
        }
    }

    private static void whichOfAll() {
        Check.sentence("WHICH: CASKS by which all that was SEEN is so");
        int[][] six = {{1, 1}, {2, 1}, {4, 2}, {6, 3}, {7, 4}, {8, 4}};
        for (int odd = 0; odd <= 6; odd++) {
            CaskGauge x = Check.told(THREE);
            for (int i = 0; i < 6; i++) {
                x.sees(six[i][0], i == odd ? six[i][1] + 1 : six[i][1]);
            }
            Check.due(x, odd == 6 ? 1 : 0, "which");
        }
    }

    private static void whichWhenAsked() {
        Check.sentence("WHICH: (when it is asked)");
        CaskGauge x = new CaskGauge();
        x.sees(4, 2);
        Check.due(x, 0, "which");
        Check.tell(x, THREE);
        Check.due(x, 1, "which");
        x.keep(0);
        Check.tell(x, "cask2 2 2;cask1 1 1;cask1 2 2;cask1 2 2;");
        Check.due(x, 12, "which");
        x.undo();
        Check.due(x, 1, "which");
        x.undo();
        Check.due(x, 0, "which");
        x.back(0);
        Check.due(x, 1, "which");
        x.fills(0, 8, 0);
        Check.due(x, 1, "which");
    }

    private static void whichLying() {
        Check.sentence("WHICH: as if all were lying");
        CaskGauge x = Check.told(THREE + "stands0;stands1;");
        Check.due(x, 7, "which");
        x.sees(8, 1);
        Check.due(x, 0, "which");
        x.forget();
        x.sees(8, 4);
        Check.due(x, 1, "which");
        x.turnsOver(0);
        Check.due(x, 1, "which");
        x.turnsOver(0);
        Check.due(x, 1, "which");
    }

    private static int ask(String text) {
        return Check.told(text).ask();
    }

    private static void askOfOneAtMost() {
        Check.sentence("ASK: NONE (one can be at most)");
        CaskGauge x = Check.told("");
        Check.due(x, NONE, "ask");
        Check.tell(x, "cask1 2 2;");
        Check.due(x, NONE, "ask");
        Check.tell(x, THREE);
        x.sees(3, 2);
        Check.due(x, NONE, "ask");
        x.sees(3, 1);
        Check.due(x, 0, "which");
        Check.due(x, NONE, "ask");
        x.forget();
        x.sees(1, 1);
        Check.due(x, 3, "which");
        Check.due(x, 3, "ask");
        x.forget();
        Check.due(x, 3, "ask");
    }

    private static void askAlike() {
        Check.sentence("ASK: alike are two of one and the same DIP");
        Check.due("2 is a dip of 1 in both, 3 is one of 2 and of 1", ask("cask1 2 2;cask2 2 2;"), 3);
        Check.due("in any order", ask("cask2 2 2;cask1 2 2;"), 3);
        Check.due("alike by every n", ask("cask1 2 2;cask1 2 2;"), 0);
        Check.due("four alike", ask("cask1 2 2;cask1 2 2;cask1 2 2;cask1 2 2;"), 0);
        Check.sentence("ASK: alike are two both of a HOLD below n");
        Check.due("both hold nothing", ask("cask1 1 1;cask9 1 1;"), 0);
        Check.due("1 is above the HOLD of two of three", ask("cask1 2 2;cask1 1 1;cask9 1 1;"), 1);
        Check.due("1 is above the HOLD of one of two, not of the other", ask("cask1 2 2;cask1 1 1;"), 1);
        Check.sentence("ASK: a CASK of a HOLD below n is not alike one that has a DIP");
        Check.due("all differ at 3: 2, 1, too much", ask("cask1 2 2;cask2 2 2;cask1 1 1;"), 3);
        // 0 2 6 10 14 18 20 are under the dips of the second one
        Check.due("5 is a dip of 3, and of 2", ask("cask1 2 2;cask1 2 3;"), 5);
    }

    private static void askTheLeast() {
        Check.sentence("ASK: the greatest number of these that are alike is least");
        Check.due("two pairs: 2 and 2 at 3, better than 3 and 1", ask("cask1 2 2;cask1 2 2;cask2 2 2;cask2 2 2;"), 3);
        Check.due("3 and 1 can't be bettered", ask("cask1 2 2;cask2 2 2;cask2 2 2;cask2 2 2;"), 3);
        Check.due("2 and 1 and 1", ask("cask1 2 2;cask1 1 1;cask2 2 2;cask2 2 2;"), 3);
        Check.due("of several the least n: 3 to 8 are as good", ask("cask2 2 2;cask1 2 2;cask2 2 2;"), 3);
        Check.due("four of which three differ", ask("cask4 6 6;cask4 5 6;cask4 6 7;cask2 1 1;"), 41);
    }

    private static void askUpTo999() {
        Check.sentence("ASK: n (0 to 999)");
        Check.due("these differ from 997 on", ask("cask4 11 19;cask6 1 19;"), 997);
        Check.due("these all differ from 999 on", ask("cask5 12 14;cask8 7 20;cask12 2 8;"), 999);
        Check.due("these all differ from 999 on", ask("cask11 3 8;cask5 12 14;cask10 2 16;"), 999);
        Check.due("these would all differ from 1001 on", ask("cask4 15 15;cask9 1 11;cask7 5 12;"), 19);
        Check.due("these would differ from 1005 on", ask("cask5 10 17;cask7 2 17;"), 0);
    }

    private static void askOfThese() {
        Check.sentence("ASK: of these that WHICH tells alone, as if all were lying");
        CaskGauge x = Check.told("cask2 2 2;cask1 1 1;cask1 2 2;cask1 2 2;");
        Check.due(x, 3, "ask");
        x.sees(4, 2);
        Check.due(x, 12, "which");
        Check.due(x, 0, "ask");
        x.forget();
        x.sees(0, 0);
        Check.due(x, 3, "ask");
        for (int c = 0; c <= 3; c++) {
            x.turnsOver(c);
            Check.due(x, 3, "ask");
        }
        x.fills(0, 16, 3);
        Check.due(x, 3, "ask");
    }
}
