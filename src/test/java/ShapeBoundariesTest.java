/** The sentences on a cask's shape and on dips (promises 10 to 16), each at its edges; reckoned by hand. */
public final class ShapeBoundariesTest {
    private static final int BAD = Check.BAD, NONE = Check.NONE;
    private static final int LEAST = Check.LEAST, MOST = Check.MOST;
    /** Rows of 2, 2, 2, 2 cells. */
    private static final String SMALL = "cask 1 2 2;";
    /** Radii of 4, 4; rows 0 and 9 have no cells: 0, 2, 6, 6, 6, 6, 6, 6, 2, 0 in each slice. */
    private static final String FLAT = "cask 2 1 5;";

    public static void main(String[] args) {
        radius();
        rows();
        hold();
        underLying();
        underStanding();
        dip();
        marks();
        known();
        sharedAmongTwo();
        sharedAmongThree();
        sharedAsItLies();
        sharesOfEveryAmount();
        Check.end("shape boundaries");
    }

    private static void answers(CaskGauge x, int[] want, int from, String name, int... args) {
        int[] with = args.clone();
        for (int at = 0; at < want.length; at++) {
            with[with.length - 1] = from + at;
            Check.due(x, want[at], name, with);
        }
    }

    private static void radii(String text, int... want) {
        CaskGauge x = Check.told(text);
        for (int i = 0; i < want.length; i++) {
            Check.due(x, want[i], "slice", 0, i, -1);
        }
        Check.due(x, BAD, "slice", 0, want.length, -1);
        Check.due(x, BAD, "slice", 0, -1, -1);
    }

    private static void radius() {
        Check.sentence("RADIUS of SLICE i (0 to S less 1): rounded down");
        radii("cask 2 17 20;", 20, 20);
        radii("cask 2 16 20;", 19, 19);
        radii("cask 2 15 20;", 19, 19);
        radii("cask 2 13 20;", 19, 19);
        radii("cask 2 12 20;", 18, 18);
        radii("cask 3 3 5;", 5, 5, 5);
        radii("cask 3 2 5;", 4, 5, 4);
        radii("cask 12 1 20;", 5, 10, 14, 17, 19, 20, 20, 19, 17, 14, 10, 5);
        Check.sentence("RADIUS: one SLICE, HEAD as BELLY");
        radii("cask 1 1 20;", 20);
        radii("cask 1 1 1;", 1);
        radii("cask 4 20 20;", 20, 20, 20, 20);
        radii("cask 3 1 1;", 1, 1, 1);
    }

    private static void rows() {
        Check.sentence("ROW j (0 to twice BELLY less 1, from below) of a SLICE has twice w CELLS, w the greatest");
        CaskGauge x = Check.told("cask 1 5 5;cask 3 1 5;cask 1 1 1;");
        answers(x, new int[] {BAD, 5, 4, 6, 8, 8, 8, 8, 8, 8, 6, 4, BAD}, -2, "slice", 0, 0, 0);
        answers(x, new int[] {BAD, 5, 4, 6, 8, 8, 8, 8, 8, 8, 6, 4, BAD}, -2, "slice", 1, 1, 0);
        Check.sentence("ROW j has none, if there is no such w");
        answers(x, new int[] {BAD, 4, 0, 2, 6, 6, 6, 6, 6, 6, 2, 0, BAD}, -2, "slice", 1, 0, 0);
        answers(x, new int[] {BAD, 4, 0, 2, 6, 6, 6, 6, 6, 6, 2, 0, BAD}, -2, "slice", 1, 2, 0);
        Check.sentence("w (0 on): twice 0 CELLS");
        answers(x, new int[] {BAD, 1, 0, 0, BAD}, -2, "slice", 2, 0, 0);
        for (int j : new int[] {LEAST, LEAST + 1, MOST - 1, MOST}) {
            Check.due(x, BAD, "slice", 0, 0, j);
        }
    }

    private static void hold() {
        Check.sentence("HOLD of a CASK: CELLS of all ROWS of all its SLICES");
        CaskGauge x = Check.told("cask 12 20 20;cask 12 1 1;cask 1 2 2;cask 3 1 5;");
        int[] want = {14544, 0, 8, 148};
        for (int c = 0; c <= 3; c++) {
            Check.due(x, want[c], "cask", c, 4);
            x.turnsOver(c);
            Check.due(x, want[c], "cask", c, 4);
        }
        Check.sentence("WINE (0 to HOLD) and SPIRIT (0 to WINE); none at first");
        for (int c = 0; c <= 3; c++) {
            Check.due(x, 0, "cask", c, 5);
            Check.due(x, 0, "cask", c, 6);
            Check.due(x, 0, "cask", c, 7);
        }
        Check.due(x, 14544, "fills", 0, 14544, 14544);
        Check.due(x, 14544, "cask", 0, 6);
        Check.due(x, 12, "cask", 0, 7);
        Check.due(x, 8, "fills", 2, 8, 0);
        Check.due(x, 0, "cask", 2, 6);
    }

    private static void underLying() {
        Check.sentence("UNDER y, lying (y 0 to twice BELLY)");
        CaskGauge x = Check.told("cask 3 1 5;cask 12 1 2;cask 1 1 20;");
        answers(x, new int[] {BAD, 0, 4, 14, 34, 54, 74, 94, 114, 134, 144, 148, BAD}, -1, "under", 0, 0);
        answers(x, new int[] {BAD, 0, 24, 48, 72, 96, BAD, BAD}, -1, "under", 1, 0);
        Check.due(x, 1204, "under", 2, 39);
        Check.due(x, 1212, "under", 2, 40);
        Check.due(x, BAD, "under", 2, 41);
        Check.due(x, BAD, "under", 2, MOST);
        Check.due(x, BAD, "under", 2, LEAST);
    }

    private static void underStanding() {
        Check.sentence("UNDER y, standing (y 0 to S)");
        CaskGauge x = Check.told("cask3 1 5;cask12 1 2;cask1 1 20;stands0;stands1;stands2;");
        answers(x, new int[] {BAD, 0, 40, 108, 148, BAD, BAD}, -1, "under", 0, 0);
        answers(x, new int[] {BAD, 0, 8, 16, 24, 32, 40, 48, 56, 64, 72, 80, 88, 96, BAD}, -1, "under", 1, 0);
        answers(x, new int[] {BAD, 0, 1212, BAD, BAD}, -1, "under", 2, 0);
        Check.due(x, BAD, "under", 1, MOST);
        Check.due(x, BAD, "under", 1, LEAST);
        Check.sentence("UNDER y, as it LIES or stands: when it is asked");
        Check.due(x, 1, "turnsOver", 1);
        Check.due(x, 96, "under", 1, 4);
        Check.due(x, BAD, "under", 1, 5);
        Check.due(x, 0, "turnsOver", 1);
        Check.due(x, 40, "under", 1, 5);
    }

    private static void dip() {
        Check.sentence("DIP: the least y by which UNDER y is that amount or more");
        CaskGauge x = Check.told(SMALL + FLAT + "cask 3 1 1;");
        answers(x, new int[] {BAD, 0, 1, 1, 2, 2, 3, 3, 4, 4, BAD}, -1, "dip", 0, 0);
        Check.sentence("DIP: of several y of one and the same UNDER the least");
        answers(x, new int[] {BAD, 0, 2, 2, 2, 2, 3}, -1, "dip", 1, 0);
        answers(x, new int[] {8, 9, 9, 9, 9, BAD}, 76, "dip", 1, 0);
        Check.sentence("DIP of 0 is 0, nothing more goes into a CASK of HOLD 0");
        answers(x, new int[] {BAD, 0, BAD}, -1, "dip", 2, 0);
        Check.due(x, BAD, "dip", 0, LEAST);
        Check.due(x, BAD, "dip", 0, MOST);
        Check.sentence("DIP, standing; DIP of its WINE");
        x.turnsOver(1);
        answers(x, new int[] {BAD, 0, 1}, -1, "dip", 1, 0);
        answers(x, new int[] {1, 1, 2}, 39, "dip", 1, 0);
        answers(x, new int[] {2, 2, BAD}, 79, "dip", 1, 0);
        int[] dips = {1, 1, 2, 2, 3, 3, 4, 4};
        for (int wine = 1; wine <= 8; wine++) {
            Check.due(x, wine, "fills", 0, 1, 0);
            Check.due(x, dips[wine - 1], "cask", 0, 7);
        }
        x.turnsOver(0);
        Check.due(x, 1, "cask", 0, 7);
    }

    private static void marks() {
        Check.sentence("MARK k: the least y by which UNDER y times n is HOLD times k or more");
        CaskGauge x = Check.told(SMALL + "cask 3 1 5;cask 3 1 1;cask 12 20 20;");
        answers(x, new int[] {BAD, 2, 4, BAD}, 0, "stick", 0, 2, 0);
        answers(x, new int[] {BAD, 2, 3, 4, BAD}, 0, "stick", 0, 3, 0);
        answers(x, new int[] {BAD, 1, 2, 3, 4, BAD}, 0, "stick", 0, 4, 0);
        answers(x, new int[] {BAD, 1, 2, 3, 4, 4, BAD}, 0, "stick", 0, 5, 0);
        answers(x, new int[] {BAD, 1, 1, 2, 2, 3, 3, 4, 4, BAD}, 0, "stick", 0, 8, 0);
        answers(x, new int[] {BAD, 1, 1, 2, 2, 3, 3, 4, 4, 4, BAD}, 0, "stick", 0, 9, 0);
        answers(x, new int[] {5, 10, BAD}, 1, "stick", 1, 2, 0);
        answers(x, new int[] {40, BAD}, 9, "stick", 3, 9, 0);
        Check.sentence("STICK of n parts (2 to 9); MARK k (1 to n)");
        Check.due(x, BAD, "stick", 0, 1, 1);
        Check.due(x, BAD, "stick", 0, 10, 1);
        Check.due(x, BAD, "stick", 0, 0, 0);
        Check.due(x, BAD, "stick", 0, -2, -1);
        Check.due(x, BAD, "stick", 0, MOST, MOST);
        Check.due(x, BAD, "stick", 0, LEAST, 1);
        Check.due(x, BAD, "stick", 0, 9, LEAST);
        Check.due(x, BAD, "stick", 0, 9, MOST);
        Check.sentence("MARK k of a CASK of HOLD 0: the least y is 0");
        for (int n = 2; n <= 9; n++) {
            Check.due(x, 0, "stick", 2, n, 1);
            Check.due(x, 0, "stick", 2, n, n);
        }
        Check.sentence("STICK, standing; WINE does not matter");
        x.turnsOver(1);
        x.fills(1, 100, 0);
        answers(x, new int[] {BAD, 2, 2, 3, BAD}, 0, "stick", 1, 3, 0);
        answers(x, new int[] {BAD, 1, 2, 3, 3, BAD}, 0, "stick", 1, 4, 0);
        x.turnsOver(3);
        answers(x, new int[] {BAD, 6, 12, BAD}, 0, "stick", 3, 2, 0);
        answers(x, new int[] {BAD, 4, 8, 12, BAD}, 0, "stick", 3, 3, 0);
        answers(x, new int[] {BAD, 3, 5, 8, 10, 12, BAD}, 0, "stick", 3, 5, 0);
    }

    private static void known() {
        Check.sentence("KNOWN by a dip y: the least and the greatest amount (0 to HOLD) of which the DIP is y");
        CaskGauge x = Check.told(SMALL + FLAT + "cask 3 1 1;cask 12 20 20;");
        knownAt(x, 0, new int[] {0, 1, 3, 5, 7}, new int[] {0, 2, 4, 6, 8});
        Check.sentence("KNOWN: NONE, if no amount, 0 among them, has that DIP");
        knownAt(x, 1, new int[] {0, NONE, 1, 5, 17, 29, 41, 53, 65, 77, NONE}, new int[] {0, NONE, 4, 16, 28, 40, 52, 64, 76, 80, NONE});
        knownAt(x, 2, new int[] {0, NONE, NONE}, new int[] {0, NONE, NONE});
        Check.due(x, 14449, "known", 3, 40, 0);
        Check.due(x, 14544, "known", 3, 40, 1);
        Check.due(x, BAD, "known", 3, 41, 1);
        Check.sentence("KNOWN, standing (y 0 on, as far as UNDER is told)");
        x.turnsOver(1);
        knownAt(x, 1, new int[] {0, 1, 41}, new int[] {0, 40, 80});
        x.turnsOver(2);
        knownAt(x, 2, new int[] {0, NONE, NONE, NONE}, new int[] {0, NONE, NONE, NONE});
        x.turnsOver(3);
        Check.due(x, 13333, "known", 3, 12, 0);
        Check.due(x, 14544, "known", 3, 12, 1);
        Check.due(x, BAD, "known", 3, 13, 0);
    }

    private static void knownAt(CaskGauge x, int cask, int[] least, int[] greatest) {
        for (int y = 0; y < least.length; y++) {
            Check.due(x, least[y], "known", cask, y, 0);
            Check.due(x, greatest[y], "known", cask, y, 1);
        }
        for (int y : new int[] {LEAST, LEAST + 1, -1, least.length, MOST - 1, MOST}) {
            Check.due(x, BAD, "known", cask, y, 0);
            Check.due(x, BAD, "known", cask, y, 1);
        }
    }

    /** Answers for the greatest, y, z, the first one, the last one. */
    private static void shared(CaskGauge x, int m, int greatest, int y, int z, int first, int last) {
        int[] want = {greatest, y, z, first, last};
        answers(x, want, -1, "shares", 0, m, 0);
    }

    private static CaskGauge filled(String text, int wine) {
        CaskGauge x = Check.told(text);
        Check.due(x, wine, "fills", 0, wine, 0);
        return x;
    }

    private static void sharedAmongTwo() {
        Check.sentence("SHARED among 2: the greatest is least; of several that of the least y");
        int[][] want = {{1, 0, 1, 0}, {2, 0, 2, 0}, {2, 1, 1, 2}, {2, 1, 2, 2}, {3, 1, 3, 2}, {4, 1, 4, 2}, {4, 2, 3, 4}, {4, 2, 4, 4}};
        for (int wine = 1; wine <= 8; wine++) {
            int[] due = want[wine - 1];
            shared(filled(SMALL, wine), 2, due[0], due[1], BAD, due[2], due[3]);
        }
        Check.sentence("SHARED: dips y (0 to DIP of its WINE), an empty row below");
        shared(filled(FLAT, 1), 2, 1, 0, BAD, 1, 0);
        shared(filled(FLAT, 4), 2, 4, 0, BAD, 4, 0);
        shared(filled(FLAT, 5), 2, 4, 2, BAD, 1, 4);
        shared(filled(FLAT, 80), 2, 40, 5, BAD, 40, 40);
    }

    private static void sharedAmongThree() {
        Check.sentence("SHARED among 3: z no more than y; of several that of the least y, then the least z");
        int[][] want = {{1, 0, 0, 1, 0}, {2, 0, 0, 2, 0}, {2, 1, 0, 1, 0}, {2, 1, 0, 2, 0}, {2, 2, 1, 1, 2}, {2, 2, 1, 2, 2},
            {3, 2, 1, 3, 2}, {4, 2, 0, 4, 0}};
        for (int wine = 1; wine <= 8; wine++) {
            int[] due = want[wine - 1];
            shared(filled(SMALL, wine), 3, due[0], due[1], due[2], due[3], due[4]);
        }
        shared(filled(FLAT, 4), 3, 4, 0, 0, 4, 0);
        shared(filled(FLAT, 5), 3, 4, 2, 0, 1, 0);
        shared(filled("cask 3 1 5;", 148), 3, 54, 6, 4, 54, 54);
    }

    private static void sharedAsItLies() {
        Check.sentence("SHARED from a CASK, as it LIES or stands");
        CaskGauge x = filled("cask 3 1 5;stands 0;", 40);
        shared(x, 2, 40, 0, BAD, 40, 0);
        shared(x, 3, 40, 0, 0, 40, 0);
        x.fills(0, 1, 0);
        shared(x, 2, 40, 1, BAD, 1, 40);
        shared(x, 3, 40, 1, 0, 1, 0);
        x.fills(0, 107, 0);
        shared(x, 2, 108, 1, BAD, 108, 40);
        shared(x, 3, 68, 2, 1, 40, 40);
        x.turnsOver(0);
        shared(x, 2, 74, 5, BAD, 74, 74);
    }

    /** Every way to cut, tried here: the answer is the fairest, none ahead of it is as fair. */
    private static void sharesOfEveryAmount() {
        Check.sentence("SHARED: of all these the way by which the greatest is least");
        for (String text : new String[] {"cask 3 1 5;", "cask 3 1 5;stands 0;", FLAT, "cask 7 1 4;stands 0;"}) {
            int hold = Check.told(text).cask(0, 4);
            for (int wine = 1; wine <= hold; wine++) {
                CaskGauge x = filled(text, wine);
                int[] among2 = fairest(x, wine, 2);
                int[] among3 = fairest(x, wine, 3);
                shared(x, 2, among2[0], among2[1], BAD, among2[3], among2[4]);
                shared(x, 3, among3[0], among3[1], among3[2], among3[3], among3[4]);
            }
        }
    }

    private static int[] fairest(CaskGauge x, int wine, int m) {
        int[] best = null;
        int dip = x.cask(0, 7);
        int[] under = new int[dip + 1];
        for (int y = 0; y <= dip; y++) {
            under[y] = x.under(0, y);
        }
        for (int y = 0; y <= dip; y++) {
            for (int z = m == 2 ? y : 0; z <= y; z++) {
                int first = Math.max(0, wine - under[y]);
                int last = Math.min(wine, under[z]);
                int greatest = Math.max(Math.max(first, last), wine - first - last);
                if (best == null || greatest < best[0]) {
                    best = new int[] {greatest, y, z, first, last};
                }
            }
        }
        return best;
    }
}
