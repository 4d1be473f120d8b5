/** Each promise of the document by itself: ordinary inputs, the edges that it names, wrong inputs. Reckoned by hand, but for ask()'s far edges. */
public final class PromisesTest {
    private static final int BAD = Check.BAD, STATE = Check.STATE, FULL = Check.FULL, NONE = Check.NONE;
    private static final int LEAST = Check.LEAST, MOST = Check.MOST;
    /** Under 0 .. 10 of cask 3 4 5, lying: all its three slices have a radius of 5. */
    private static final int[] STRAIGHT = {0, 12, 30, 54, 78, 102, 126, 150, 174, 192, 204};
    /** Under 0 .. 10 of cask 3 1 5, lying: its slices have radii of 4, 5, 4. */
    private static final int[] BOWED = {0, 4, 14, 34, 54, 74, 94, 114, 134, 144, 148};
    private static final String TWO = "cask 3 4 5;cask 3 1 5;";

    public static void main(String[] args) {
        promise1New();
        promise2Type();
        promise3Clear();
        promise4TellsWell();
        promise4Faults();
        promise5Fills();
        promise6Draws();
        promise7Pours();
        promise8TurnsOver();
        promise9Undo();
        promise10Cask();
        promise11Slice();
        promise12Under();
        promise13Dip();
        promise14Stick();
        promise15Known();
        promise16Shares();
        promise17All();
        promise18Sees();
        promise19Forget();
        promise20Which();
        promise21Ask();
        promise22Keep();
        promise23Back();
        promise24Count();
        Check.end("promises");
    }

    private static void due(String call, int got, int want) {
        Check.due(call, got, want);
    }

    private static void type(CaskGauge x, String text) {
        Check.type(x, text);
    }

    private static int tell(CaskGauge x, String text) {
        return Check.tell(x, text);
    }

    private static CaskGauge told(String text) {
        return Check.told(text);
    }

    private static String state(CaskGauge x) {
        return Trace.state(x);
    }

    private static void same(String call, String before, String after) {
        due(call + " changes nothing: " + before + " / " + after, before.equals(after) ? 1 : 0, 1);
    }

    private static void promise1New() {
        Check.sentence("promise 1");
        CaskGauge x = new CaskGauge();
        for (int what = 0; what <= 5; what++) {
            due("count(" + what + ")", x.count(what), 0);
        }
        due("cask(0, 0)", x.cask(0, 0), BAD);
        due("undo()", x.undo(), STATE);
        due("back(0)", x.back(0), STATE);
        due("back(1)", x.back(1), STATE);
        due("which()", x.which(), 0);
        CaskGauge other = told(TWO);
        due("count(0) beside another object", x.count(0), 0);
        due("count(0) of that", other.count(0), 2);
    }

    private static void promise2Type() {
        Check.sentence("promise 2");
        CaskGauge x = new CaskGauge();
        due("type(0)", x.type(0), 1);
        due("type(255)", x.type(255), 2);
        due("type(-1)", x.type(-1), BAD);
        due("type(256)", x.type(256), BAD);
        due("type(LEAST)", x.type(LEAST), BAD);
        due("type(MOST)", x.type(MOST), BAD);
        for (int i = 3; i <= 60; i++) {
            due("type(32)", x.type(32), i);
        }
        due("type(32), 60 are there", x.type(32), FULL);
        due("type(256), 60 are there", x.type(256), BAD);
        due("count(4)", x.count(4), 60);
    }

    private static void promise3Clear() {
        Check.sentence("promise 3");
        CaskGauge x = told(TWO);
        due("clear() of none", x.clear(), 0);
        type(x, "cask");
        due("clear()", x.clear(), 4);
        due("clear() again", x.clear(), 0);
        due("count(0)", x.count(0), 2);
        due("count(5)", x.count(5), 1);
        type(x, " 1 1 1;");
        due("tells() of what came after clear()", x.tells(), -11);
    }

    private static void promise4TellsWell() {
        Check.sentence("promise 4");
        CaskGauge x = new CaskGauge();
        due("tells() of nothing", x.tells(), 0);
        due("count(5)", x.count(5), 1);
        due("tells()", tell(x, "  cask12 20 20;stands0;  cask 1  1 1 ; stands 0 ;"), 4);
        due("count(0)", x.count(0), 2);
        due("count(4)", x.count(4), 0);
        due("cask(0, 0)", x.cask(0, 0), 12);
        due("cask(0, 1)", x.cask(0, 1), 20);
        due("cask(0, 2)", x.cask(0, 2), 20);
        due("cask(0, 3)", x.cask(0, 3), 0);
        due("cask(1, 3)", x.cask(1, 3), 1);
        due("tells() of four", tell(x, "cask1 1 9;cask1 1 9;cask1 2 9;cask3 3 9;stands 3;"), 5);
        due("count(0)", x.count(0), 4);
        due("cask(3, 3)", x.cask(3, 3), 0);
        x.fills(0, 5, 3);
        x.fills(1, 2, 1);
        due("tells() anew", tell(x, "cask 1 1 9;"), 1);
        due("count(0)", x.count(0), 1);
        due("count(1), no wine then", x.count(1), 0);
        due("count(2)", x.count(2), 0);
        due("undo()", x.undo(), 5);
        due("cask(0, 5)", x.cask(0, 5), 5);
        due("cask(1, 5)", x.cask(1, 5), 2);
        due("count(0)", x.count(0), 4);
        due("tells() of blanks", tell(x, "   "), 0);
        due("count(0)", x.count(0), 0);
        x.sees(0, 0);
        x.keep(0);
        tell(x, TWO);
        due("count(3): what was seen stays", x.count(3), 1);
        due("back(0): images stay", x.back(0), 0);
    }

    private static void fault(String text, int place) {
        CaskGauge x = told(TWO);
        x.fills(0, 7, 2);
        type(x, text);
        String before = state(x);
        due("tells() of '" + text + "'", x.tells(), -10 - place);
        same("tells() of '" + text + "'", before, state(x));
        due("clear() after a fault in '" + text + "'", x.clear(), text.length());
    }

    private static void promise4Faults() {
        fault("cask", 4);
        fault("cask  ", 6);
        fault("cask 1 1 1", 10);
        fault("cask 1 1 1 ", 11);
        fault("stands", 6);
        fault("cask 1", 6);
        fault("cask 1 1", 8);
        fault("cask;", 4);
        fault("cask 1;", 6);
        fault("cask 1 1 ;", 9);
        fault("cask 1 1 1 1;", 11);
        fault("cask cask", 5);
        fault("casks 1 1 1;", 0);
        fault(" cas 1 1 1;", 1);
        fault("stand 0;", 0);
        fault("caskstands", 0);
        fault("caska 1 1 1;", 0);
        fault("caskz 1 1 1;", 0);
        fault("cusk 1 1 1;", 0);
        fault("cast 1 1 1;", 0);
        fault("cask 1 1 1;stanza 0;", 11);
        fault("Cask 1 1 1;", 0);
        fault("caskA", 4);
        fault(";", 0);
        fault(";".repeat(60), 0);
        fault("cask1 1 1;cask1 1 1;cask1 1 1;cask1 1 1;stands0 ;stands0 ;x", 58);
        fault("7", 0);
        fault("cask 1 1 1;;", 11);
        fault("cask 0 1 1;", 5);
        fault("cask 13 1 1;", 5);
        fault("cask 1 0 1;", 7);
        fault("cask 1 21 21;", 7);
        fault("cask 1 5 4;", 9);
        fault("cask 1 20 21;", 10);
        fault("cask 01 1 1;", 5);
        fault("cask 1 001 1;", 7);
        fault("cask 1 1 120;", 9);
        fault("cask 1 1 4294967297;", 9);
        fault("cask 1,1 1;", 6);
        fault("cask -1 1 1;", 5);
        fault("cask 1\n1 1;", 6);
        fault("cask 1" + (char) 0, 6);
        fault("cask 1" + (char) 255, 6);
        fault("stands 0;", 7);
        fault("stands ;", 7);
        fault("stands x;", 7);
        fault("cask 1 1 1;stands 1;", 18);
        fault("cask 1 1 1;stands 00;", 18);
        fault("cask 1 1 1;stands;", 17);
        fault("cask 1 1 1;stands 0", 19);
        fault("cask 1 1 1;stands 0 0;", 20);
        fault("cask 1 1 1;stands 1;cask 1 1 1;", 18);
        fault("cask1 1 1;cask1 1 1;cask1 1 1;cask1 1 1; cask1 1 1;", 41);
        fault("cask1 1 1;cask1 1 1;cask1 1 1;cask1 1 1;stands 4;", 47);
        fault("cask 0 1 1; foo", 5);
        fault("cask 1 1 1; foo", 12);
    }

    private static void promise5Fills() {
        Check.sentence("promise 5");
        CaskGauge x = told(TWO);
        due("fills(0, 100, 40)", x.fills(0, 100, 40), 100);
        due("fills(0, 3, 0)", x.fills(0, 3, 0), 103);
        due("fills(0, 1, 1)", x.fills(0, 1, 1), 104);
        due("cask(0, 6)", x.cask(0, 6), 41);
        String before = state(x);
        due("fills(0, 101, 0)", x.fills(0, 101, 0), FULL);
        due("fills(0, MOST, MOST)", x.fills(0, MOST, MOST), FULL);
        due("fills(0, 0, 0)", x.fills(0, 0, 0), BAD);
        due("fills(0, -1, -1)", x.fills(0, -1, -1), BAD);
        due("fills(0, LEAST, 0)", x.fills(0, LEAST, 0), BAD);
        due("fills(0, 5, 6)", x.fills(0, 5, 6), BAD);
        due("fills(0, 5, -1)", x.fills(0, 5, -1), BAD);
        due("fills(0, 500, 501)", x.fills(0, 500, 501), BAD);
        due("fills(2, 1, 0)", x.fills(2, 1, 0), BAD);
        due("fills(-1, 1, 0)", x.fills(-1, 1, 0), BAD);
        due("fills(4, 1, 0)", x.fills(4, 1, 0), BAD);
        same("a refused fills()", before, state(x));
        due("fills(0, 100, 100) to the brim", x.fills(0, 100, 100), 204);
        due("fills(0, 1, 1)", x.fills(0, 1, 1), FULL);
        due("cask(1, 5)", x.cask(1, 5), 0);
        CaskGauge none = told("cask 5 1 1;");
        due("fills(0, 1, 0) where nothing goes in", none.fills(0, 1, 0), FULL);
    }

    private static void promise6Draws() {
        Check.sentence("promise 6");
        CaskGauge x = told(TWO);
        x.fills(0, 100, 40);
        due("draws(0, 33)", x.draws(0, 33), 67);
        due("cask(0, 6): 13 and 20 hundredths went", x.cask(0, 6), 27);
        due("draws(0, 7)", x.draws(0, 7), 60);
        due("cask(0, 6)", x.cask(0, 6), 25);
        String before = state(x);
        due("draws(0, 61)", x.draws(0, 61), STATE);
        due("draws(0, MOST)", x.draws(0, MOST), STATE);
        due("draws(1, 1)", x.draws(1, 1), STATE);
        due("draws(0, 0)", x.draws(0, 0), BAD);
        due("draws(0, -5)", x.draws(0, -5), BAD);
        due("draws(2, 1)", x.draws(2, 1), BAD);
        due("draws(-1, 1)", x.draws(-1, 1), BAD);
        same("a refused draws()", before, state(x));
        due("draws(0, 60)", x.draws(0, 60), 0);
        due("cask(0, 6): all of it", x.cask(0, 6), 0);
        x.fills(0, 1, 1);
        due("draws(0, 1) of 1", x.draws(0, 1), 0);
        due("cask(0, 6)", x.cask(0, 6), 0);
        CaskGauge big = told("cask 12 20 20;");
        int hold = big.cask(0, 4);
        big.fills(0, hold, hold);
        due("draws(0, hold less 1)", big.draws(0, hold - 1), 1);
        due("cask(0, 6)", big.cask(0, 6), 1);
    }

    private static void promise7Pours() {
        Check.sentence("promise 7");
        CaskGauge x = told("cask 3 4 5;cask 1 5 5;cask 1 1 1;");
        x.fills(0, 100, 40);
        due("pours(0, 1, 33)", x.pours(0, 1, 33), 33);
        due("cask(0, 5)", x.cask(0, 5), 67);
        due("cask(0, 6)", x.cask(0, 6), 27);
        due("cask(1, 6)", x.cask(1, 6), 13);
        due("count(5)", x.count(5), 3);
        String before = state(x);
        due("pours(0, 0, 1)", x.pours(0, 0, 1), BAD);
        due("pours(0, 3, 1)", x.pours(0, 3, 1), BAD);
        due("pours(3, 0, 1)", x.pours(3, 0, 1), BAD);
        due("pours(-1, 0, 1)", x.pours(-1, 0, 1), BAD);
        due("pours(0, -1, 1)", x.pours(0, -1, 1), BAD);
        due("pours(0, 1, 0)", x.pours(0, 1, 0), BAD);
        due("pours(0, 1, LEAST)", x.pours(0, 1, LEAST), BAD);
        due("pours(0, 2, 68): less is there, and no room", x.pours(0, 2, 68), STATE);
        due("pours(2, 0, 1)", x.pours(2, 0, 1), STATE);
        due("pours(0, 2, 1)", x.pours(0, 2, 1), FULL);
        due("pours(0, 1, 36)", x.pours(0, 1, 36), FULL);
        due("pours(0, 1, MOST)", x.pours(0, 1, MOST), STATE);
        same("a refused pours()", before, state(x));
        due("pours(0, 1, 35) to the brim", x.pours(0, 1, 35), 68);
        due("pours(1, 0, 68) all", x.pours(1, 0, 68), 100);
        due("cask(1, 5)", x.cask(1, 5), 0);
        due("cask(0, 6)", x.cask(0, 6), 40);
    }

    private static void promise8TurnsOver() {
        Check.sentence("promise 8");
        CaskGauge x = told(TWO + "stands 1;");
        x.fills(0, 60, 1);
        due("turnsOver(0)", x.turnsOver(0), 0);
        due("cask(0, 7)", x.cask(0, 7), 1);
        due("cask(0, 5)", x.cask(0, 5), 60);
        due("turnsOver(0)", x.turnsOver(0), 1);
        due("cask(0, 7)", x.cask(0, 7), 4);
        due("turnsOver(1)", x.turnsOver(1), 1);
        due("cask(0, 3)", x.cask(0, 3), 1);
        due("turnsOver(2)", x.turnsOver(2), BAD);
        due("turnsOver(-1)", x.turnsOver(-1), BAD);
        due("turnsOver(4)", x.turnsOver(4), BAD);
        due("count(5)", x.count(5), 5);
    }

    private static void promise9Undo() {
        Check.sentence("promise 9");
        CaskGauge x = new CaskGauge();
        due("undo()", x.undo(), STATE);
        tell(x, TWO);
        x.fills(0, 100, 40);
        x.pours(0, 1, 33);
        x.draws(1, 3);
        x.turnsOver(0);
        x.fills(0, 1000, 0);
        x.draws(0, 0);
        x.pours(0, 0, 1);
        tell(x, "cask");
        due("undo() of turnsOver()", x.undo(), 4);
        due("cask(0, 3)", x.cask(0, 3), 1);
        due("undo() of draws()", x.undo(), 3);
        due("cask(1, 5)", x.cask(1, 5), 33);
        due("cask(1, 6)", x.cask(1, 6), 13);
        due("undo() of pours()", x.undo(), 2);
        due("cask(1, 5)", x.cask(1, 5), 0);
        due("cask(0, 5)", x.cask(0, 5), 100);
        due("cask(0, 6)", x.cask(0, 6), 40);
        due("undo() of fills()", x.undo(), 1);
        due("cask(0, 5)", x.cask(0, 5), 0);
        due("count(4): the text stays", x.count(4), 4);
        due("undo() of tells()", x.undo(), 0);
        due("count(0)", x.count(0), 0);
        due("undo()", x.undo(), STATE);

        tell(x, TWO);
        for (int i = 1; i <= 19; i++) {
            x.fills(0, i, 1);
        }
        for (int i = 7; i >= 0; i--) {
            due("undo()", x.undo(), i);
        }
        due("cask(0, 5): 8 are known", x.cask(0, 5), 11 * 12 / 2);
        due("cask(0, 6)", x.cask(0, 6), 11);
        due("undo()", x.undo(), STATE);
        x.fills(1, 9, 9);
        due("undo()", x.undo(), 0);
        due("cask(1, 5)", x.cask(1, 5), 0);
    }

    private static void promise10Cask() {
        Check.sentence("promise 10");
        CaskGauge x = told(TWO + "stands 1;");
        x.fills(1, 50, 33);
        int[] first = {3, 4, 5, 1, 204, 0, 0, 0, NONE};
        int[] second = {3, 1, 5, 0, 148, 50, 33, 2, 660};
        for (int what = 0; what <= 8; what++) {
            due("cask(0, " + what + ")", x.cask(0, what), first[what]);
            due("cask(1, " + what + ")", x.cask(1, what), second[what]);
            due("cask(2, " + what + ")", x.cask(2, what), BAD);
            due("cask(-1, " + what + ")", x.cask(-1, what), BAD);
        }
        due("cask(0, 9)", x.cask(0, 9), BAD);
        due("cask(0, -1)", x.cask(0, -1), BAD);
        due("cask(LEAST, LEAST)", x.cask(LEAST, LEAST), BAD);
        x.fills(0, 1, 1);
        due("cask(0, 8) of 1", x.cask(0, 8), 1000);
        x.undo();
        x.fills(0, 3, 2);
        due("cask(0, 8): 666 and a part", x.cask(0, 8), 666);
        x.fills(0, 1, 2);
        x.fills(0, 100, 0);
        due("cask(0, 8)", x.cask(0, 8), 19);
        due("cask(0, 7)", x.cask(0, 7), 6);
        CaskGauge none = told("cask 5 1 1;");
        due("cask(0, 4) of radius 1", none.cask(0, 4), 0);
        due("cask(0, 7)", none.cask(0, 7), 0);
    }

    private static void promise11Slice() {
        Check.sentence("promise 11");
        CaskGauge x = told(TWO + "cask 4 2 19;");
        due("slice(0, 0, -1)", x.slice(0, 0, -1), 5);
        due("slice(1, 0, -1)", x.slice(1, 0, -1), 4);
        due("slice(1, 1, -1)", x.slice(1, 1, -1), 5);
        due("slice(1, 2, -1)", x.slice(1, 2, -1), 4);
        int[] radii = {10, 18, 18, 10};
        for (int i = 0; i < 4; i++) {
            due("slice(2, " + i + ", -1)", x.slice(2, i, -1), radii[i]);
        }
        int[] rows = {0, 2, 6, 6, 6, 6, 6, 6, 2, 0};
        int[] middle = {4, 6, 8, 8, 8, 8, 8, 8, 6, 4};
        for (int j = 0; j < 10; j++) {
            due("slice(1, 0, " + j + ")", x.slice(1, 0, j), rows[j]);
            due("slice(1, 2, " + j + ")", x.slice(1, 2, j), rows[j]);
            due("slice(1, 1, " + j + ")", x.slice(1, 1, j), middle[j]);
        }
        x.turnsOver(1);
        due("slice(1, 0, 2), standing", x.slice(1, 0, 2), 6);
        due("slice(1, 0, 9), standing", x.slice(1, 0, 9), 0);
        due("slice(1, 0, 10)", x.slice(1, 0, 10), BAD);
        due("slice(1, 0, -2)", x.slice(1, 0, -2), BAD);
        due("slice(1, 3, 0)", x.slice(1, 3, 0), BAD);
        due("slice(1, 3, -1)", x.slice(1, 3, -1), BAD);
        due("slice(1, -1, -1)", x.slice(1, -1, -1), BAD);
        due("slice(3, 0, -1)", x.slice(3, 0, -1), BAD);
        due("slice(-1, 0, -1)", x.slice(-1, 0, -1), BAD);
        due("slice(0, MOST, MOST)", x.slice(0, MOST, MOST), BAD);
    }

    private static void promise12Under() {
        Check.sentence("promise 12");
        CaskGauge x = told(TWO);
        for (int y = 0; y <= 10; y++) {
            due("under(0, " + y + ")", x.under(0, y), STRAIGHT[y]);
            due("under(1, " + y + ")", x.under(1, y), BOWED[y]);
        }
        due("under(1, 11)", x.under(1, 11), BAD);
        due("under(1, -1)", x.under(1, -1), BAD);
        due("under(2, 0)", x.under(2, 0), BAD);
        due("under(-1, 0)", x.under(-1, 0), BAD);
        x.turnsOver(1);
        int[] upright = {0, 40, 108, 148};
        for (int y = 0; y <= 3; y++) {
            due("under(1, " + y + "), standing", x.under(1, y), upright[y]);
        }
        due("under(1, 4), standing", x.under(1, 4), BAD);
        due("under(0, 10)", x.under(0, 10), 204);
        tell(x, "cask 1 5 5;");
        due("under(0, 10) of another cask", x.under(0, 10), 68);
        x.undo();
        due("under(0, 10) of the old one", x.under(0, 10), 204);
        promise12OtherShapes();
    }

    /** Casks that come in one another's place and differ in one number alone. */
    private static void promise12OtherShapes() {
        CaskGauge x = told("cask 3 1 5;");
        due("under(0, 5)", x.under(0, 5), 74);
        tell(x, "cask 3 5 5;");
        due("under(0, 5), another head", x.under(0, 5), 102);
        tell(x, "cask 2 5 5;");
        due("under(0, 5), other slices", x.under(0, 5), 68);
        tell(x, "cask 2 5 6;");
        due("under(0, 6), another belly", x.under(0, 6), x.cask(0, 4) / 2);
        due("under(0, 12)", x.under(0, 12), x.cask(0, 4));
        due("under(0, 13)", x.under(0, 13), BAD);
        tell(x, "cask 3 1 5;stands 0;");
        due("under(0, 1)", x.under(0, 1), 40);
        tell(x, "cask 3 5 5;stands 0;");
        due("under(0, 1), another head", x.under(0, 1), 68);
        tell(x, "cask 4 5 5;stands 0;");
        due("under(0, 4), other slices", x.under(0, 4), 272);
        tell(x, "cask 4 1 1;stands 0;");
        due("under(0, 4), another head and belly", x.under(0, 4), 0);
        tell(x, "cask 4 1 9;stands 0;");
        due("under(0, 4), another belly, is what it holds", x.under(0, 4), x.cask(0, 4));
        due("which is more than nothing", x.cask(0, 4) > 0 ? 1 : 0, 1);
    }

    private static void promise13Dip() {
        Check.sentence("promise 13");
        CaskGauge x = told(TWO);
        for (int y = 1; y <= 10; y++) {
            due("dip(1, " + BOWED[y] + ")", x.dip(1, BOWED[y]), y);
            due("dip(1, " + (BOWED[y - 1] + 1) + ")", x.dip(1, BOWED[y - 1] + 1), y);
        }
        due("dip(1, 0)", x.dip(1, 0), 0);
        due("dip(1, 149)", x.dip(1, 149), BAD);
        due("dip(1, -1)", x.dip(1, -1), BAD);
        due("dip(1, LEAST)", x.dip(1, LEAST), BAD);
        due("dip(1, MOST)", x.dip(1, MOST), BAD);
        due("dip(2, 0)", x.dip(2, 0), BAD);
        due("dip(-1, 0)", x.dip(-1, 0), BAD);
        x.turnsOver(1);
        due("dip(1, 40), standing", x.dip(1, 40), 1);
        due("dip(1, 41), standing", x.dip(1, 41), 2);
        due("dip(1, 148), standing", x.dip(1, 148), 3);
        due("dip(1, 149), standing", x.dip(1, 149), BAD);
        CaskGauge flat = told("cask 2 1 5;");
        due("dip(0, 1): row 0 has no cells", flat.dip(0, 1), 2);
        due("dip(0, 80): row 9 has none", flat.dip(0, 80), 9);
        CaskGauge big = told("cask 12 20 20;");
        for (int y = 0; y <= 40; y++) {
            due("dip(0, what is under " + y + ")", big.dip(0, big.under(0, y)), y);
        }
        due("dip(0, hold and 1)", big.dip(0, big.cask(0, 4) + 1), BAD);
    }

    private static void promise14Stick() {
        Check.sentence("promise 14");
        CaskGauge x = told(TWO + "cask 5 1 1;");
        int[] quarters = {3, 5, 8, 10};
        for (int k = 1; k <= 4; k++) {
            due("stick(0, 4, " + k + ")", x.stick(0, 4, k), quarters[k - 1]);
        }
        due("stick(1, 2, 1): 74 is just a half", x.stick(1, 2, 1), 5);
        due("stick(1, 2, 2)", x.stick(1, 2, 2), 10);
        due("stick(1, 9, 1)", x.stick(1, 9, 1), 3);
        due("stick(1, 9, 9)", x.stick(1, 9, 9), 10);
        due("stick(2, 3, 3): it holds nothing", x.stick(2, 3, 3), 0);
        due("stick(0, 1, 1)", x.stick(0, 1, 1), BAD);
        due("stick(0, 10, 1)", x.stick(0, 10, 1), BAD);
        due("stick(0, 4, 0)", x.stick(0, 4, 0), BAD);
        due("stick(0, 4, 5)", x.stick(0, 4, 5), BAD);
        due("stick(0, LEAST, LEAST)", x.stick(0, LEAST, LEAST), BAD);
        due("stick(3, 4, 1)", x.stick(3, 4, 1), BAD);
        due("stick(-1, 4, 1)", x.stick(-1, 4, 1), BAD);
        x.turnsOver(1);
        due("stick(1, 4, 1), standing", x.stick(1, 4, 1), 1);
        due("stick(1, 3, 1), standing", x.stick(1, 3, 1), 2);
        due("stick(1, 4, 3), standing", x.stick(1, 4, 3), 3);
    }

    private static void promise15Known() {
        Check.sentence("promise 15");
        CaskGauge x = told(TWO + "cask 2 1 5;cask 5 1 1;");
        due("known(0, 0, 0)", x.known(0, 0, 0), 0);
        due("known(0, 0, 1)", x.known(0, 0, 1), 0);
        due("known(0, 1, 0)", x.known(0, 1, 0), 1);
        due("known(0, 1, 1)", x.known(0, 1, 1), 12);
        due("known(0, 10, 0)", x.known(0, 10, 0), 193);
        due("known(0, 10, 1)", x.known(0, 10, 1), 204);
        due("known(2, 1, 0): a dip that none has", x.known(2, 1, 0), NONE);
        due("known(2, 1, 1)", x.known(2, 1, 1), NONE);
        due("known(2, 2, 0)", x.known(2, 2, 0), 1);
        due("known(2, 10, 1)", x.known(2, 10, 1), NONE);
        due("known(3, 0, 1)", x.known(3, 0, 1), 0);
        due("known(3, 2, 0)", x.known(3, 2, 0), NONE);
        due("known(3, 3, 0)", x.known(3, 3, 0), BAD);
        due("known(0, 11, 0)", x.known(0, 11, 0), BAD);
        due("known(0, -1, 0)", x.known(0, -1, 0), BAD);
        due("known(0, 0, 2)", x.known(0, 0, 2), BAD);
        due("known(0, 0, -1)", x.known(0, 0, -1), BAD);
        due("known(4, 0, 0)", x.known(4, 0, 0), BAD);
        due("known(-1, 0, 0)", x.known(-1, 0, 0), BAD);
        x.turnsOver(1);
        due("known(1, 2, 0), standing", x.known(1, 2, 0), 41);
        due("known(1, 2, 1), standing", x.known(1, 2, 1), 108);
        due("known(1, 4, 0), standing", x.known(1, 4, 0), BAD);
    }

    private static void promise16Shares() {
        Check.sentence("promise 16");
        CaskGauge x = told(TWO);
        due("shares(0, 2, -1) of nothing", x.shares(0, 2, -1), STATE);
        due("shares(0, 2, 1) of nothing", x.shares(0, 2, 1), BAD);
        x.fills(0, 100, 0);
        int[] among2 = {54, 3, BAD, 46, 54};
        int[] among3 = {46, 3, 1, 46, 12};
        for (int k = -1; k <= 3; k++) {
            due("shares(0, 2, " + k + ")", x.shares(0, 2, k), among2[k + 1]);
            due("shares(0, 3, " + k + ")", x.shares(0, 3, k), among3[k + 1]);
        }
        due("shares(0, 1, 0)", x.shares(0, 1, 0), BAD);
        due("shares(0, 4, 0)", x.shares(0, 4, 0), BAD);
        due("shares(0, 2, 4)", x.shares(0, 2, 4), BAD);
        due("shares(0, 3, 4)", x.shares(0, 3, 4), BAD);
        due("shares(0, 3, -2)", x.shares(0, 3, -2), BAD);
        due("shares(2, 3, 0)", x.shares(2, 3, 0), BAD);
        due("shares(-1, 3, 0)", x.shares(-1, 3, 0), BAD);
        x.turnsOver(0);
        due("shares(0, 2, -1), standing", x.shares(0, 2, -1), 68);
        due("shares(0, 2, 0), standing", x.shares(0, 2, 0), 1);
        due("shares(0, 2, 2), standing", x.shares(0, 2, 2), 32);
        due("shares(0, 2, 3), standing", x.shares(0, 2, 3), 68);
        due("shares(0, 3, 0), standing: 32, 68, 0 comes ahead of 32, 0, 68", x.shares(0, 3, 0), 1);
        due("shares(0, 3, 1), standing", x.shares(0, 3, 1), 0);
        due("shares(0, 3, 3), standing", x.shares(0, 3, 3), 0);
        x.fills(1, 1, 0);
        due("shares(1, 2, -1) of 1", x.shares(1, 2, -1), 1);
        due("shares(1, 2, 0): the least y", x.shares(1, 2, 0), 0);
        due("shares(1, 2, 2)", x.shares(1, 2, 2), 1);
        due("shares(1, 2, 3)", x.shares(1, 2, 3), 0);
        due("shares(1, 3, 1)", x.shares(1, 3, 1), 0);
    }

    private static void promise17All() {
        Check.sentence("promise 17");
        CaskGauge x = told("cask 3 5 5;cask 3 5 5;cask 3 5 5;cask 3 5 5;");
        due("all(0)", x.all(0), NONE);
        due("all(1)", x.all(1), NONE);
        due("all(2)", x.all(2), BAD);
        due("all(-1)", x.all(-1), BAD);
        x.fills(3, 1, 1);
        due("all(0) of 1", x.all(0), 3);
        due("all(1) of 1", x.all(1), 1000);
        x.undo();
        x.fills(2, 10, 0);
        due("all(0): it has wine, no spirit", x.all(0), 2);
        due("all(1)", x.all(1), 0);
        x.fills(1, 3, 1);
        due("all(0)", x.all(0), 1);
        due("all(1): a third and none, by two", x.all(1), 166);
        x.fills(3, 9, 3);
        due("all(0): of several the lowest", x.all(0), 1);
        x.fills(0, 100, 34);
        due("all(0)", x.all(0), 0);
        due("all(1)", x.all(1), 251);
        due("all(2)", x.all(2), BAD);
        due("count(5): nothing is changed", x.count(5), 5);
    }

    private static void promise18Sees() {
        Check.sentence("promise 18");
        CaskGauge x = new CaskGauge();
        due("sees(-1, 0)", x.sees(-1, 0), BAD);
        due("sees(100000, 0)", x.sees(100000, 0), BAD);
        due("sees(0, -1)", x.sees(0, -1), BAD);
        due("sees(0, 41)", x.sees(0, 41), BAD);
        due("sees(0, 0)", x.sees(0, 0), 1);
        due("sees(99999, 40)", x.sees(99999, 40), 2);
        for (int i = 3; i <= 6; i++) {
            due("sees(0, 0)", x.sees(0, 0), i);
        }
        due("sees(0, 0), 6 are there", x.sees(0, 0), FULL);
        due("sees(0, 41), 6 are there", x.sees(0, 41), BAD);
        due("count(3)", x.count(3), 6);
    }

    private static void promise19Forget() {
        Check.sentence("promise 19");
        CaskGauge x = told(TWO);
        due("forget() of nothing", x.forget(), 0);
        x.sees(204, 10);
        x.sees(7, 9);
        due("forget()", x.forget(), 2);
        due("which()", x.which(), 3);
        due("sees(204, 10)", x.sees(204, 10), 1);
        due("which()", x.which(), 1);
        due("forget()", x.forget(), 1);
    }

    private static void promise20Which() {
        Check.sentence("promise 20");
        CaskGauge x = new CaskGauge();
        due("which() without casks", x.which(), 0);
        tell(x, TWO + "cask 5 1 1;stands 1;");
        due("which(), nothing was seen", x.which(), 7);
        x.sees(0, 0);
        due("which()", x.which(), 7);
        x.sees(12, 2);
        due("which(): as if it were lying", x.which(), 2);
        x.forget();
        x.sees(12, 1);
        due("which()", x.which(), 1);
        x.sees(13, 1);
        due("which(): all must be so", x.which(), 0);
        x.forget();
        x.sees(148, 10);
        due("which(): just what it holds", x.which(), 2);
        x.forget();
        x.sees(149, 10);
        due("which(): more than it holds", x.which(), 0);
        x.forget();
        x.sees(204, 10);
        tell(x, "cask 3 1 5;cask 3 4 5;");
        due("which(), when it is asked", x.which(), 2);
        tell(x, "cask 12 20 20;cask 1 1 1;cask 3 4 5;cask 12 20 20;");
        for (int y = 0; y <= 40; y++) {
            x.forget();
            x.sees(99999, y);
            due("which(): none holds so much", x.which(), 0);
        }
        x.forget();
        x.sees(x.under(0, 40), 40);
        due("which()", x.which(), 9);
    }

    private static void promise21Ask() {
        Check.sentence("promise 21");
        CaskGauge x = new CaskGauge();
        due("ask() without casks", x.ask(), NONE);
        tell(x, "cask 3 4 5;");
        due("ask() of one", x.ask(), NONE);
        tell(x, TWO + "stands 0;");
        due("ask(): 5 is a dip of 1, and of 2", x.ask(), 5);
        x.sees(204, 10);
        due("ask(), one can be", x.ask(), NONE);
        x.sees(3, 9);
        due("ask(), none can be", x.ask(), NONE);
        x.forget();
        tell(x, "cask 3 4 5;cask 3 4 5;");
        due("ask(): alike by all", x.ask(), 0);
        tell(x, "cask 3 4 5;cask 3 4 5;cask 5 1 1;");
        due("ask(): 1 is more than the last one holds", x.ask(), 1);
        tell(x, "cask 3 4 5;cask 5 1 1;cask 5 1 1;");
        due("ask(): these are alike, both hold less", x.ask(), 1);
        tell(x, "cask 12 20 20;cask 12 20 20;stands 1;");
        due("ask()", x.ask(), 0);
        tell(x, "cask 3 5 5;cask 4 5 5;");
        due("ask(): 13 is a dip of 2, and of 1", x.ask(), 13);
        due("ask() of four", told("cask 4 6 6;cask 4 5 6;cask 4 6 7;cask 2 1 1;").ask(), 41);
        askNearItsEdge();
    }

    private static void askNearItsEdge() {
        due("ask(): all differ from 999 on", told("cask 5 12 14;cask 8 7 20;cask 12 2 8;").ask(), 999);
        askLikeModel("cask 4 18 20;cask 8 7 10;cask 7 8 12;");
        due("ask(): they differ from 1005 on", told("cask 5 10 17;cask 7 2 17;").ask(), 0);
        due("ask(): they differ from 997 on", told("cask 4 11 19;cask 6 1 19;").ask(), 997);
    }

    private static void askLikeModel(String text) {
        Model model = new Model();
        for (int i = 0; i < text.length(); i++) {
            model.type(text.charAt(i));
        }
        model.tells();
        due("ask() of " + text, told(text).ask(), model.ask());
    }

    private static void promise22Keep() {
        Check.sentence("promise 22");
        CaskGauge x = new CaskGauge();
        due("keep(0) of nothing", x.keep(0), 0);
        due("back(0)", x.back(0), 0);
        due("back(1)", x.back(1), STATE);
        tell(x, TWO);
        x.fills(0, 9, 4);
        due("keep(0)", x.keep(0), 2);
        due("count(5): keep() is not done", x.count(5), 2);
        x.fills(0, 1, 1);
        due("keep(1)", x.keep(1), 2);
        due("keep(2)", x.keep(2), BAD);
        due("keep(-1)", x.keep(-1), BAD);
        due("keep(MOST)", x.keep(MOST), BAD);
        x.back(0);
        due("cask(0, 5)", x.cask(0, 5), 9);
        x.back(1);
        due("cask(0, 5)", x.cask(0, 5), 10);
        x.draws(0, 10);
        due("keep(0) again", x.keep(0), 2);
        x.fills(0, 100, 0);
        x.back(0);
        due("cask(0, 5)", x.cask(0, 5), 0);
    }

    private static void promise23Back() {
        Check.sentence("promise 23");
        CaskGauge x = told(TWO + "stands 1;");
        x.fills(0, 9, 4);
        String before = state(x);
        due("back(0)", x.back(0), STATE);
        due("back(2)", x.back(2), BAD);
        due("back(-1)", x.back(-1), BAD);
        same("a refused back()", before, state(x));
        x.keep(0);
        tell(x, "cask 1 1 9;");
        x.sees(1, 1);
        x.type('c');
        due("back(0)", x.back(0), 2);
        due("cask(0, 5)", x.cask(0, 5), 9);
        due("cask(0, 6)", x.cask(0, 6), 4);
        due("cask(1, 3)", x.cask(1, 3), 0);
        due("cask(1, 4)", x.cask(1, 4), 148);
        due("count(3): what was seen stays", x.count(3), 1);
        due("count(4): the text stays", x.count(4), 1);
        due("count(5)", x.count(5), 0);
        due("undo()", x.undo(), STATE);
        x.fills(0, 1, 1);
        due("undo()", x.undo(), 0);
        due("cask(0, 5)", x.cask(0, 5), 9);
        x.fills(0, 1, 1);
        due("back(0): the image is as it was", x.back(0), 2);
        due("cask(0, 5)", x.cask(0, 5), 9);
    }

    private static void promise24Count() {
        Check.sentence("promise 24");
        CaskGauge x = told(TWO);
        x.fills(0, 9, 4);
        x.fills(1, 20, 7);
        x.sees(1, 1);
        x.sees(1, 1);
        x.type('a');
        int[] want = {2, 29, 11, 2, 1, 3};
        for (int what = 0; what <= 5; what++) {
            due("count(" + what + ")", x.count(what), want[what]);
        }
        due("count(6)", x.count(6), BAD);
        due("count(-1)", x.count(-1), BAD);
        due("count(LEAST)", x.count(LEAST), BAD);
        for (int i = 0; i < 10; i++) {
            x.turnsOver(0);
        }
        due("count(5)", x.count(5), 8);
    }
}
