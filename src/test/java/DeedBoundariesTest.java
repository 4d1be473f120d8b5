import java.util.ArrayDeque;

/** The sentences on what is done, undone, kept, on floats (promises 1, 5 to 9, 17, 22 to 24), each at its edges. */
public final class DeedBoundariesTest {
    private static final int BAD = Check.BAD, STATE = Check.STATE, FULL = Check.FULL, NONE = Check.NONE;
    private static final int LEAST = Check.LEAST, MOST = Check.MOST;
    /** HOLD 8 and 16, and none. */
    private static final String THREE = "cask1 2 2;cask2 2 2;cask1 1 1;";
    private static final String BIG = "cask12 20 20;";

    public static void main(String[] args) {
        newObject();
        filled();
        drawn();
        drawnRoundedDown();
        poured();
        turned();
        undoneOfEachKind();
        eightAreKnown();
        undoneAndDoneAgain();
        notUndone();
        strength();
        strongest();
        mean();
        keep();
        back();
        count();
        Check.end("deed boundaries");
    }

    private static void holds(CaskGauge x, int cask, int wine, int spirit) {
        Check.due(x, wine, "cask", cask, 5);
        Check.due(x, spirit, "cask", cask, 6);
    }

    private static void newObject() {
        Check.sentence("CaskGauge(): No CASKS");
        CaskGauge x = new CaskGauge();
        for (int what = 0; what <= 5; what++) {
            Check.due(x, 0, "count", what);
        }
        Check.due(x, NONE, "all", 0);
        Check.due(x, NONE, "all", 1);
        Check.due(x, 0, "which");
        Check.due(x, NONE, "ask");
        Check.due(x, STATE, "undo");
        Check.due(x, STATE, "back", 0);
        Check.due(x, STATE, "back", 1);
        Check.due(x, 0, "clear");
        Check.due(x, 0, "forget");
        Check.due(x, 0, "keep", 1);
        Check.due(x, 0, "tells");
    }

    private static void filled() {
        Check.sentence("FILLED (n 1 on, m 0 to n): WINE then. FULL: there would be more than HOLD");
        CaskGauge x = Check.told(THREE);
        Check.due(x, BAD, "fills", 0, 0, 0);
        Check.due(x, 1, "fills", 0, 1, 0);
        holds(x, 0, 1, 0);
        Check.due(x, 2, "fills", 0, 1, 1);
        holds(x, 0, 2, 1);
        Check.due(x, FULL, "fills", 0, 7, 0);
        Check.due(x, FULL, "fills", 0, 8, 8);
        Check.due(x, FULL, "fills", 0, MOST, 0);
        Check.due(x, FULL, "fills", 0, MOST - 1, MOST - 1);
        Check.due(x, BAD, "fills", 0, LEAST, 0);
        Check.due(x, BAD, "fills", 0, 6, 7);
        Check.due(x, BAD, "fills", 0, 6, -1);
        holds(x, 0, 2, 1);
        Check.due(x, 8, "fills", 0, 6, 6);
        holds(x, 0, 8, 7);
        Check.due(x, FULL, "fills", 0, 1, 0);
        Check.due(x, FULL, "fills", 2, 1, 0);
        Check.due(x, FULL, "fills", 1, 17, 3);
        Check.due(x, 16, "fills", 1, 16, 16);
        holds(x, 1, 16, 16);
        Check.due(x, 5, "count", 5);
        Check.sentence("FULL: the greatest HOLD, lying and standing");
        CaskGauge big = Check.told(BIG + BIG + "stands 1;");
        for (int c = 0; c <= 1; c++) {
            Check.due(big, FULL, "fills", c, 14545, 0);
            Check.due(big, 14543, "fills", c, 14543, 14543);
            Check.due(big, FULL, "fills", c, 2, 0);
            Check.due(big, 14544, "fills", c, 1, 1);
            Check.due(big, FULL, "fills", c, 1, 1);
            holds(big, c, 14544, 14544);
        }
    }

    private static void drawn() {
        Check.sentence("DRAWN (n 1 on): WINE left. STATE: it has less");
        CaskGauge x = Check.told(THREE);
        Check.due(x, STATE, "draws", 0, 1);
        Check.due(x, BAD, "draws", 0, 0);
        x.fills(0, 5, 5);
        Check.due(x, STATE, "draws", 0, 6);
        Check.due(x, STATE, "draws", 0, MOST);
        Check.due(x, BAD, "draws", 0, 0);
        Check.due(x, BAD, "draws", 0, -1);
        Check.due(x, BAD, "draws", 0, LEAST);
        Check.due(x, 4, "draws", 0, 1);
        Check.due(x, STATE, "draws", 0, 5);
        Check.due(x, 0, "draws", 0, 4);
        Check.due(x, STATE, "draws", 0, 1);
        holds(x, 0, 0, 0);
        Check.due(x, STATE, "draws", 2, 1);
    }

    private static void drawnRoundedDown() {
        Check.sentence("with SPIRIT: SPIRIT times n by WINE, rounded down");
        // wine, spirit, drawn, spirit left
        int[][] runs = {{100, 40, 25, 30}, {100, 39, 25, 30}, {100, 41, 25, 31}, {100, 43, 25, 33}, {100, 44, 25, 33},
            {2, 1, 1, 1}, {3, 1, 2, 1}, {3, 2, 1, 2}, {3, 2, 2, 1}, {3, 3, 2, 1}, {7, 0, 3, 0}, {7, 5, 7, 0}, {1, 1, 1, 0},
            {14544, 14544, 14543, 1}, {14544, 14543, 14543, 1}, {14544, 14543, 1, 14543}, {14544, 1, 14543, 1},
            {14544, 7272, 7272, 3636}};
        for (int[] run : runs) {
            CaskGauge x = Check.told(BIG + BIG);
            x.fills(0, run[0], run[1]);
            Check.due(x, run[0] - run[2], "draws", 0, run[2]);
            holds(x, 0, run[0] - run[2], run[3]);
            x.undo();
            holds(x, 0, run[0], run[1]);
            Check.due(x, run[2], "pours", 0, 1, run[2]);
            holds(x, 0, run[0] - run[2], run[3]);
            holds(x, 1, run[2], run[1] - run[3]);
        }
    }

    private static void poured() {
        Check.sentence("POURED (n 1 on): WINE of that then. STATE: the first one has less; FULL: more than HOLD");
        CaskGauge x = Check.told(THREE);
        x.fills(1, 13, 6);
        Check.due(x, BAD, "pours", 1, 0, 0);
        Check.due(x, BAD, "pours", 1, 0, LEAST);
        Check.due(x, BAD, "pours", 1, 1, 1);
        Check.due(x, BAD, "pours", 1, 3, 1);
        Check.due(x, STATE, "pours", 1, 0, 14);
        Check.due(x, STATE, "pours", 1, 0, MOST);
        Check.due(x, STATE, "pours", 0, 1, 1);
        Check.due(x, FULL, "pours", 1, 0, 13);
        Check.due(x, FULL, "pours", 1, 0, 9);
        Check.due(x, FULL, "pours", 1, 2, 1);
        Check.due(x, 2, "count", 5);
        Check.due(x, 1, "pours", 1, 0, 1);
        holds(x, 0, 1, 0);
        holds(x, 1, 12, 6);
        Check.due(x, FULL, "pours", 1, 0, 8);
        Check.due(x, 8, "pours", 1, 0, 7);
        holds(x, 0, 8, 3);
        holds(x, 1, 5, 3);
        Check.due(x, FULL, "pours", 1, 0, 1);
        Check.due(x, 13, "pours", 0, 1, 8);
        holds(x, 0, 0, 0);
        holds(x, 1, 13, 6);
        x.fills(1, 3, 0);
        x.fills(0, 8, 8);
        Check.due(x, FULL, "pours", 0, 1, 1);
        Check.due(x, FULL, "pours", 1, 0, 1);
        Check.due(x, STATE, "pours", 1, 0, 17);
    }

    private static void turned() {
        Check.sentence("TURNED: 1 if it LIES then, 0 if it stands; WINE and SPIRIT stay");
        CaskGauge x = Check.told(THREE + "stands1;");
        x.fills(1, 16, 7);
        Check.due(x, 0, "turnsOver", 0);
        Check.due(x, 1, "turnsOver", 0);
        Check.due(x, 1, "turnsOver", 1);
        Check.due(x, 0, "turnsOver", 1);
        Check.due(x, 0, "turnsOver", 2);
        holds(x, 1, 16, 7);
        Check.due(x, 1, "cask", 0, 3);
        Check.due(x, 0, "cask", 1, 3);
        Check.due(x, 0, "cask", 2, 3);
        Check.due(x, 7, "count", 5);
        for (int cask : new int[] {LEAST, -1, 3, 4, MOST}) {
            Check.due(x, BAD, "turnsOver", cask);
        }
        Check.due(x, 7, "count", 5);
    }

    private static void undoneOfEachKind() {
        Check.sentence("UNDONE: the latest tells(), fills(), draws(), pours(), turnsOver(): as ahead of it");
        CaskGauge x = new CaskGauge();
        ArrayDeque<String> ahead = new ArrayDeque<>();
        String[][] deeds = {{"tells"}, {"fills", "1", "9", "4"}, {"pours", "1", "0", "3"}, {"turnsOver", "1"}, {"draws", "1", "5"},
            {"tells"}, {"turnsOver", "0"}};
        for (String[] deed : deeds) {
            ahead.push(casksOf(x));
            if (deed[0].equals("tells")) {
                Check.hold("a text is told", Check.tell(x, THREE + "stands0;") == 4);
            } else {
                int[] args = new int[deed.length - 1];
                for (int i = 0; i < args.length; i++) {
                    args[i] = Integer.parseInt(deed[i + 1]);
                }
                Check.hold(Check.said(deed[0], args) + " is not refused", Check.call(x, deed[0], args) >= 0);
            }
        }
        while (!ahead.isEmpty()) {
            String want = ahead.pop();
            Check.due(x, ahead.size(), "undo");
            Check.hold("as ahead: " + want, want.equals(casksOf(x)));
        }
        Check.due(x, STATE, "undo");
        Check.due(x, 0, "count", 0);
    }

    private static String casksOf(CaskGauge x) {
        String state = Trace.state(x);
        return state.substring(0, state.lastIndexOf("| ", state.lastIndexOf("| ") - 1)) + x.count(0);
    }

    private static void eightAreKnown() {
        Check.sentence("(8 are known, older ones are lost)");
        for (int deeds = 0; deeds <= 20; deeds++) {
            CaskGauge x = new CaskGauge();
            if (deeds > 0) {
                Check.tell(x, BIG);
            }
            for (int i = 2; i <= deeds; i++) {
                x.fills(0, 1, 1);
            }
            int known = Math.min(deeds, 8);
            Check.due(x, known, "count", 5);
            for (int left = known - 1; left >= 0; left--) {
                Check.due(x, left, "undo");
                Check.due(x, Math.max(0, deeds - 1 - (known - left)), "count", 1);
            }
            Check.due(x, STATE, "undo");
            Check.due(x, deeds > 8 ? 1 : 0, "count", 0);
            Check.due(x, Math.max(0, deeds - 9), "count", 1);
        }
    }

    /** Deeds and undoing by turns, against a plain list of what was ahead. */
    private static void undoneAndDoneAgain() {
        Check.sentence("UNDONE: how many more may be; what is done behind it is known again");
        CaskGauge x = new CaskGauge();
        ArrayDeque<Integer> ahead = new ArrayDeque<>();
        Check.tell(x, BIG);
        x.keep(0);
        x.back(0);
        int wine = 0;
        int step = 1;
        for (int turn : new int[] {1, -1, 3, -2, 9, -3, 2, -9, 7, -1, 1, 1, 1, -4, 12, -5, 5, -8, -1, 8, -8}) {
            for (int i = 0; i < Math.abs(turn); i++) {
                if (turn > 0) {
                    ahead.push(wine);
                    if (ahead.size() > 8) {
                        ahead.removeLast();
                    }
                    wine += step;
                    Check.due(x, wine, "fills", 0, step, 0);
                    step++;
                } else if (ahead.isEmpty()) {
                    Check.due(x, STATE, "undo");
                } else {
                    wine = ahead.pop();
                    Check.due(x, ahead.size(), "undo");
                }
                Check.due(x, wine, "cask", 0, 5);
                Check.due(x, ahead.size(), "count", 5);
            }
        }
    }

    private static void notUndone() {
        Check.sentence("UNDONE: CASKS, WINE, SPIRIT, nothing else; only the five kinds, not refused");
        CaskGauge x = Check.told(THREE);
        x.fills(0, 3, 2);
        Check.type(x, "cask");
        x.sees(2, 1);
        x.keep(0);
        x.fills(0, 9, 0);
        x.draws(0, 4);
        x.pours(0, 2, 1);
        x.turnsOver(3);
        x.tells();
        x.back(1);
        Check.due(x, 2, "count", 5);
        Check.due(x, 1, "undo");
        Check.due(x, 4, "count", 4);
        Check.due(x, 1, "count", 3);
        holds(x, 0, 0, 0);
        Check.due(x, 0, "undo");
        Check.due(x, 0, "count", 0);
        Check.due(x, 4, "count", 4);
        Check.due(x, 1, "count", 3);
        Check.due(x, -14, "tells");
        Check.due(x, 0, "count", 5);
        Check.due(x, STATE, "undo");
        Check.sentence("UNDONE: a text that was told does not come back, IMAGES stay");
        Check.due(x, 4, "clear");
        Check.tell(x, THREE);
        Check.due(x, 0, "undo");
        Check.due(x, 0, "count", 4);
        Check.due(x, 3, "back", 0);
        holds(x, 0, 3, 2);
    }

    private static void strength() {
        Check.sentence("STRENGTH: SPIRIT as a float by WINE as a float; told as 1000f times it, cut");
        // wine, spirit, told; 251 by 500 and by 1000 are cut below what whole numbers would tell
        int[][] runs = {{1, 0, 0}, {1, 1, 1000}, {2, 1, 500}, {3, 1, 333}, {3, 2, 666}, {10, 7, 700}, {10, 9, 900},
            {500, 251, 501}, {1000, 251, 250}, {1000, 999, 999}, {1001, 1000, 999}, {1001, 1, 0}, {1000, 1, 1},
            {14544, 14543, 999}, {14544, 14544, 1000}, {14544, 14, 0}, {14544, 15, 1}, {14544, 0, 0}};
        for (int[] run : runs) {
            CaskGauge x = Check.told(BIG);
            Check.due(x, NONE, "cask", 0, 8);
            x.fills(0, run[0], run[1]);
            Check.due(x, run[2], "cask", 0, 8);
            Check.due(x, run[2], "all", 1);
            x.draws(0, run[0]);
            Check.due(x, NONE, "cask", 0, 8);
        }
    }

    /** Wine and spirit of casks 0, 1, .. by turns. */
    private static CaskGauge with(int... amounts) {
        CaskGauge x = Check.told((BIG + BIG + BIG + BIG).substring(0, BIG.length() * amounts.length / 2));
        for (int i = 0; i < amounts.length; i += 2) {
            if (amounts[i] > 0) {
                Check.due(x, amounts[i], "fills", i / 2, amounts[i], amounts[i + 1]);
            }
        }
        return x;
    }

    private static void strongest() {
        Check.sentence("STRONGEST: the CASK of the greatest one");
        Check.due(with(1, 0), 0, "all", 0);
        Check.due(with(0, 0, 5, 0), 1, "all", 0);
        Check.due(with(9, 3, 5, 2, 8, 4, 0, 0), 2, "all", 0);
        Check.due(with(9, 3, 5, 2, 8, 4, 1, 1), 3, "all", 0);
        Check.due(with(4000, 3999, 4001, 4000), 1, "all", 0);
        Check.sentence("STRONGEST: of several the lowest");
        Check.due(with(0, 0, 9, 3, 3, 1, 6, 2), 1, "all", 0);
        Check.due(with(2, 0, 1, 0, 3, 0, 4, 0), 0, "all", 0);
        Check.due(with(2, 2, 1, 1), 0, "all", 0);
        Check.sentence("STRONGEST, in floats: 4999 by 5000 and 5000 by 5001 are the same float");
        Check.due(with(5000, 4999, 5001, 5000), 0, "all", 0);
        Check.due(with(5001, 5000, 5000, 4999), 0, "all", 0);
        Check.due(with(5000, 4998, 5000, 4999, 5001, 5000), 1, "all", 0);
        Check.sentence("STRONGEST, MEAN: NONE (none has WINE)");
        CaskGauge x = with(5, 5, 7, 1);
        Check.due(x, 0, "all", 0);
        x.draws(0, 5);
        Check.due(x, 1, "all", 0);
        Check.due(x, 142, "all", 1);
        x.draws(1, 7);
        Check.due(x, NONE, "all", 0);
        Check.due(x, NONE, "all", 1);
        for (int what : new int[] {LEAST, -1, 2, MOST}) {
            Check.due(x, BAD, "all", what);
        }
    }

    private static void mean() {
        Check.sentence("MEAN: STRENGTHS of CASKS that have WINE, by how many they are");
        Check.due(with(0, 0, 2, 1, 0, 0, 4, 0), 250, "all", 1);
        Check.due(with(3, 0, 5, 0), 0, "all", 1);
        Check.due(with(3, 3, 5, 5, 1, 1, 9, 9), 1000, "all", 1);
        Check.due(with(3, 1, 0, 0, 3, 1), 333, "all", 1);
        Check.due(with(3, 1, 5, 0), 166, "all", 1);
        Check.sentence("MEAN: added one by one (by CASKS' numbers), in floats; cut");
        Check.due(with(40, 14, 25, 17, 10, 8), 609, "all", 1);
        Check.due(with(10, 8, 25, 17, 40, 14), 610, "all", 1);
        Check.due(with(9, 9, 24, 22, 30, 19), 850, "all", 1);
        Check.due(with(30, 19, 24, 22, 9, 9), 849, "all", 1);
        Check.due(with(25, 2, 1, 0, 32, 8, 20, 15), 269, "all", 1);
        Check.due(with(20, 15, 32, 8, 1, 0, 25, 2), 270, "all", 1);
        CaskGauge x = Check.told(BIG + BIG + BIG);
        x.fills(2, 10, 8);
        x.fills(1, 25, 17);
        x.fills(0, 40, 14);
        Check.due(x, 609, "all", 1);
    }

    private static void keep() {
        Check.sentence("IMAGES 0, 1: an IMAGE is kept: how many CASKS");
        CaskGauge x = new CaskGauge();
        Check.due(x, 0, "keep", 0);
        Check.tell(x, THREE + "cask1 9 9;");
        Check.due(x, 4, "keep", 1);
        Check.due(x, BAD, "keep", 2);
        Check.due(x, BAD, "keep", -1);
        Check.due(x, BAD, "keep", LEAST);
        Check.due(x, BAD, "keep", MOST);
        Check.due(x, 0, "back", 0);
        Check.due(x, 0, "count", 0);
        Check.due(x, 4, "back", 1);
        Check.due(x, 9, "cask", 3, 1);
        Check.sentence("an IMAGE that is kept again is the later one, the other one stays");
        x.fills(1, 5, 5);
        Check.due(x, 4, "keep", 0);
        x.draws(1, 5);
        Check.due(x, 4, "back", 0);
        holds(x, 1, 5, 5);
        Check.due(x, 4, "back", 1);
        holds(x, 1, 0, 0);
        Check.due(x, 4, "back", 0);
        holds(x, 1, 5, 5);
        Check.sentence("an IMAGE is as it was kept, whatever is done behind it");
        x.draws(1, 2);
        x.turnsOver(0);
        x.undo();
        x.fills(0, 8, 0);
        Check.tell(x, "cask 9 9 9;");
        Check.due(x, 4, "back", 0);
        holds(x, 1, 5, 5);
        holds(x, 0, 0, 0);
        Check.due(x, 1, "cask", 0, 3);
        Check.due(x, 2, "cask", 0, 2);
    }

    private static void back() {
        Check.sentence("All of that becomes as an IMAGE has it: CASKS, WINE, SPIRIT; STATE: none was kept");
        CaskGauge x = Check.told(THREE + "stands1;");
        Check.due(x, STATE, "back", 0);
        Check.due(x, STATE, "back", 1);
        x.fills(1, 12, 7);
        x.keep(1);
        Check.due(x, STATE, "back", 0);
        Check.tell(x, "cask 3 4 5;");
        x.fills(0, 99, 9);
        Check.due(x, 3, "back", 1);
        holds(x, 0, 0, 0);
        holds(x, 1, 12, 7);
        Check.due(x, 0, "cask", 1, 3);
        Check.due(x, 1, "cask", 0, 3);
        Check.due(x, 16, "cask", 1, 4);
        for (int image : new int[] {LEAST, -1, 2, MOST}) {
            Check.due(x, BAD, "back", image);
        }
        Check.sentence("nothing can be UNDONE behind back()");
        Check.due(x, 0, "count", 5);
        Check.due(x, STATE, "undo");
        for (int i = 0; i < 8; i++) {
            x.turnsOver(0);
        }
        Check.due(x, 8, "count", 5);
        Check.due(x, STATE, "back", 0);
        Check.due(x, BAD, "back", 2);
        Check.due(x, 8, "count", 5);
        Check.due(x, 3, "keep", 0);
        Check.due(x, 8, "count", 5);
        Check.due(x, 3, "back", 0);
        Check.due(x, 0, "count", 5);
        x.turnsOver(0);
        Check.due(x, 0, "undo");
        Check.due(x, STATE, "undo");
        Check.sentence("IMAGES keep nothing else: THE TEXT and what was SEEN stay");
        Check.type(x, "cask 1 2 2");
        x.sees(2, 1);
        Check.due(x, 3, "back", 1);
        Check.due(x, 10, "count", 4);
        Check.due(x, 1, "count", 3);
        x.keep(0);
        x.clear();
        x.forget();
        Check.due(x, 3, "back", 0);
        Check.due(x, 0, "count", 4);
        Check.due(x, 0, "count", 3);
    }

    private static void count() {
        Check.sentence("count(): 0 CASKS, 1 WINE of all, 2 SPIRIT of all, 3 SEEN, 4 letters, 5 how many may be UNDONE");
        CaskGauge x = with(14544, 14544, 14544, 14543, 14544, 1, 14544, 0);
        for (int i = 0; i < 4; i++) {
            x.turnsOver(i);
        }
        Check.type(x, " ".repeat(60));
        for (int i = 0; i < 7; i++) {
            x.sees(0, 0);
        }
        int[] want = {BAD, 4, 58176, 29088, 6, 60, 8, BAD};
        for (int what = -1; what <= 6; what++) {
            Check.due(x, want[what + 1], "count", what);
        }
        Check.due(x, BAD, "count", LEAST);
        Check.due(x, BAD, "count", MOST);
        Check.tell(x, "cask 1 2 2;");
        x.fills(0, 3, 2);
        Check.due(x, 3, "count", 1);
        Check.due(x, 2, "count", 2);
    }
}
