import java.util.function.Consumer;

/**
 * What is refused: for every number that a call takes its edges, one below and one above them, the least and the
 * greatest int; which of BAD, STATE, FULL is answered when two of them are so; that nothing has changed behind it.
 */
public final class RefusalsTest {
    private static final int BAD = Check.BAD, STATE = Check.STATE, FULL = Check.FULL, NONE = Check.NONE;
    private static final int LEAST = Check.LEAST, MOST = Check.MOST;
    /** 60 letters without a fault. */
    private static final String LONGEST = "cask12 20 20;cask12 20 20;cask12 20 20;cask12 20 20;stands3;";

    private static final Consumer<CaskGauge> NEW = x -> { };

    /** Two casks of HOLD 8 and 16, the second one standing; nothing else. */
    private static final Consumer<CaskGauge> BARE = x -> Check.tell(x, "cask1 2 2;cask2 2 2;stands1;");

    /** Four casks: HOLD 204 (90 are in it), 8 (full), 0, 16 (5 are in it); the second and the last one stand. */
    private static final Consumer<CaskGauge> RICH = x -> {
        Check.tell(x, "cask3 4 5;cask1 2 2;cask1 1 1;cask2 2 2;stands3;");
        x.fills(0, 100, 40);
        x.keep(0);
        x.fills(1, 8, 3);
        x.fills(3, 5, 5);
        x.draws(0, 10);
        x.turnsOver(1);
        x.sees(0, 0);
        x.sees(2, 1);
        Check.type(x, "cask 2 3 4;");
    };

    /** Text, SEEN, what is known to be UNDONE and both IMAGES are as full as may be: HOLD 8 (full), 16 (9 are in it). */
    private static final Consumer<CaskGauge> LADEN = x -> {
        Check.tell(x, "cask1 2 2;cask2 2 2;");
        x.fills(0, 8, 8);
        x.keep(0);
        x.fills(1, 15, 2);
        x.keep(1);
        x.turnsOver(0);
        x.turnsOver(0);
        for (int i = 0; i < 6; i++) {
            x.draws(1, 1);
        }
        x.sees(0, 0);
        x.sees(0, 0);
        for (int y = 1; y <= 4; y++) {
            x.sees(2 * y, y);
        }
        Check.type(x, LONGEST);
    };

    public static void main(String[] args) {
        pastsAreAsTold();
        numbersOfWhatIsTold();
        numbersOfWhatIsDone();
        numbersOfShapes();
        numbersOfDips();
        numbersOfTheRest();
        allNumbersWrong();
        withoutCasks();
        badAheadOfState();
        badAheadOfFull();
        stateAheadOfFull();
        refusedAlone();
        badAheadOfNone();
        askedChangesNothing();
        Check.end("refusals");
    }

    private static void pastsAreAsTold() {
        Check.sentence("(the pasts that the rest starts from)");
        Check.due("its length", LONGEST.length(), 60);
        int[][] want = {{0, 0, 0, 0, 0, 0}, {2, 0, 0, 0, 0, 1}, {4, 103, 44, 2, 11, 6}, {2, 17, 10, 6, 60, 8}};
        int at = 0;
        for (Consumer<CaskGauge> past : pasts()) {
            CaskGauge x = Trace.after(past);
            for (int what = 0; what <= 5; what++) {
                Check.due(x, want[at][what], "count", what);
            }
            at++;
        }
        Check.hold("a trace tells the pasts apart", !Trace.of(RICH).equals(Trace.of(LADEN)));
        Check.hold("a trace is the same again", Trace.of(RICH).equals(Trace.of(RICH)));
    }

    private static Iterable<Consumer<CaskGauge>> pasts() {
        return java.util.List.of(NEW, BARE, RICH, LADEN);
    }

    /** The call answers what is due, and an object on which it was called can't be told from one on which it was not. */
    private static void refused(Consumer<CaskGauge> past, int want, String name, int... args) {
        Check.due(Trace.after(past), want, name, args);
        same(past, name, args);
    }

    private static void same(Consumer<CaskGauge> past, String name, int... args) {
        String before = Trace.of(past);
        String behind = Trace.of(x -> {
            past.accept(x);
            Check.call(x, name, args);
        });
        Check.hold(Check.said(name, args) + " changes nothing:\n" + before + "\n" + behind, before.equals(behind));
    }

    /** Argument 'at' may be least to greatest (to any height, if that is MOST); the others are well as they are. */
    private static void range(Consumer<CaskGauge> past, int at, int least, int greatest, String name, int... args) {
        int[] with = args.clone();
        for (int value : new int[] {LEAST, LEAST + 1, least - 1}) {
            with[at] = value;
            refused(past, BAD, name, with);
        }
        for (int value : new int[] {greatest + 1, MOST - 1, MOST}) {
            if (value > greatest) {
                with[at] = value;
                refused(past, BAD, name, with);
            }
        }
        int last = greatest - least > 300 || greatest - least < 0 ? least + 1 : greatest;
        for (int value = least; value <= last; value++) {
            notBad(past, at, value, name, args);
        }
        notBad(past, at, greatest, name, args);
    }

    private static void notBad(Consumer<CaskGauge> past, int at, int value, String name, int... args) {
        int[] with = args.clone();
        with[at] = value;
        Check.hold(Check.said(name, with) + " is not BAD", Check.call(Trace.after(past), name, with) != BAD);
    }

    private static void numbersOfWhatIsTold() {
        Check.sentence("A letter (0 .. 255) comes to THE TEXT. BAD");
        range(NEW, 0, 0, 255, "type", 32);
        range(RICH, 0, 0, 255, "type", 32);
        range(LADEN, 0, 0, 255, "type", 32);
    }

    private static void numbersOfWhatIsDone() {
        Check.sentence("FILLED (n 1 on, m 0 to n). BAD: there is no such cask");
        range(BARE, 0, 0, 1, "fills", 0, 5, 2);
        range(RICH, 0, 0, 3, "fills", 0, 5, 2);
        range(LADEN, 0, 0, 1, "fills", 0, 5, 2);
        Check.sentence("FILLED (n 1 on). BAD");
        range(RICH, 1, 1, MOST, "fills", 0, 5, 0);
        Check.sentence("FILLED (m 0 to n). BAD");
        range(RICH, 2, 0, 5, "fills", 0, 5, 2);
        range(RICH, 2, 0, 1, "fills", 0, 1, 1);
        range(RICH, 2, 0, MOST, "fills", 0, MOST, 1);
        range(RICH, 2, 0, MOST - 1, "fills", 0, MOST - 1, 1);

        Check.sentence("DRAWN (n 1 on). BAD");
        range(BARE, 0, 0, 1, "draws", 0, 5);
        range(RICH, 0, 0, 3, "draws", 0, 5);
        range(RICH, 1, 1, MOST, "draws", 0, 5);

        Check.sentence("POURED (n 1 on) from a CASK to another one. BAD (one and the same, too)");
        range(RICH, 0, 1, 3, "pours", 1, 0, 2);
        range(RICH, 0, 0, 2, "pours", 1, 3, 2);
        range(RICH, 1, 1, 3, "pours", 0, 1, 2);
        range(RICH, 1, 0, 2, "pours", 3, 1, 2);
        range(BARE, 0, 0, 0, "pours", 0, 1, 2);
        range(BARE, 1, 1, 1, "pours", 0, 1, 2);
        range(RICH, 2, 1, MOST, "pours", 0, 1, 2);
        for (int c = 0; c <= 3; c++) {
            refused(RICH, BAD, "pours", c, c, 1);
            refused(RICH, BAD, "pours", c, -1, 1);
            refused(RICH, BAD, "pours", -1, c, 1);
            refused(RICH, BAD, "pours", c, 4, 1);
            refused(RICH, BAD, "pours", 4, c, 1);
        }

        Check.sentence("TURNED. BAD");
        range(BARE, 0, 0, 1, "turnsOver", 0);
        range(RICH, 0, 0, 3, "turnsOver", 0);
        range(LADEN, 0, 0, 1, "turnsOver", 0);
    }

    private static void numbersOfShapes() {
        Check.sentence("Of a CASK: 0 SLICES .. 8 STRENGTH. BAD");
        range(BARE, 0, 0, 1, "cask", 0, 0);
        range(RICH, 0, 0, 3, "cask", 0, 6);
        range(RICH, 1, 0, 8, "cask", 0, 6);

        Check.sentence("SLICE i (0 to S less 1). BAD");
        range(RICH, 0, 0, 3, "slice", 0, 0, 0);
        range(RICH, 1, 0, 2, "slice", 0, 1, 4);
        range(RICH, 1, 0, 2, "slice", 0, 1, -1);
        range(RICH, 1, 0, 0, "slice", 1, 0, 0);
        range(RICH, 1, 0, 1, "slice", 3, 0, 0);
        Check.sentence("ROW j (0 to twice BELLY less 1), RADIUS (j = -1). BAD");
        range(RICH, 2, -1, 9, "slice", 0, 2, 0);
        range(RICH, 2, -1, 3, "slice", 1, 0, 0);
        range(RICH, 2, -1, 1, "slice", 2, 0, 0);
        range(RICH, 2, -1, 3, "slice", 3, 1, 0);
    }

    private static void numbersOfDips() {
        Check.sentence("UNDER y, lying (y 0 to twice BELLY); standing (y 0 to S). BAD");
        range(RICH, 0, 0, 3, "under", 0, 1);
        range(RICH, 1, 0, 10, "under", 0, 1);
        range(RICH, 1, 0, 1, "under", 1, 1);
        range(RICH, 1, 0, 2, "under", 2, 1);
        range(RICH, 1, 0, 2, "under", 3, 1);

        Check.sentence("DIP of an amount (0 to HOLD). BAD");
        range(RICH, 0, 0, 3, "dip", 0, 0);
        range(RICH, 1, 0, 204, "dip", 0, 0);
        range(RICH, 1, 0, 8, "dip", 1, 0);
        range(RICH, 1, 0, 0, "dip", 2, 0);
        range(RICH, 1, 0, 16, "dip", 3, 0);

        Check.sentence("STICK of n parts (2 to 9), MARK k (1 to n). BAD");
        range(RICH, 0, 0, 3, "stick", 0, 4, 1);
        range(RICH, 1, 2, 9, "stick", 0, 4, 1);
        range(RICH, 1, 2, 9, "stick", 0, 4, 2);
        range(RICH, 1, 5, 9, "stick", 0, 9, 5);
        range(RICH, 1, 9, 9, "stick", 0, 9, 9);
        for (int n = 2; n <= 9; n++) {
            range(BARE, 2, 1, n, "stick", 0, n, 1);
        }

        Check.sentence("KNOWN by a dip y (0 on, as far as UNDER is told): the least (what = 0), the greatest (1). BAD");
        range(RICH, 0, 0, 3, "known", 0, 0, 0);
        range(RICH, 1, 0, 10, "known", 0, 0, 0);
        range(RICH, 1, 0, 10, "known", 0, 0, 1);
        range(RICH, 1, 0, 1, "known", 1, 0, 1);
        range(RICH, 1, 0, 2, "known", 2, 0, 1);
        range(RICH, 1, 0, 2, "known", 3, 0, 0);
        range(RICH, 2, 0, 1, "known", 0, 3, 0);
    }

    private static void numbersOfTheRest() {
        Check.sentence("SHARED among m (2, 3): k -1 to 3. BAD (z for m 2, too)");
        range(RICH, 0, 0, 3, "shares", 0, 2, 0);
        range(RICH, 1, 2, 3, "shares", 0, 2, 0);
        range(RICH, 1, 3, 3, "shares", 0, 3, 1);
        range(RICH, 2, -1, 3, "shares", 0, 3, 0);
        range(RICH, 2, -1, 0, "shares", 0, 2, 0);
        range(RICH, 2, 2, 3, "shares", 0, 2, 2);

        Check.sentence("STRONGEST (what = 0), MEAN (1). BAD");
        range(NEW, 0, 0, 1, "all", 0);
        range(RICH, 0, 0, 1, "all", 0);

        Check.sentence("SEEN (n 0 .. 99999, y 0 .. 40). BAD");
        range(NEW, 0, 0, 99999, "sees", 3, 3);
        range(RICH, 0, 0, 99999, "sees", 3, 3);
        range(NEW, 1, 0, 40, "sees", 3, 3);
        range(RICH, 1, 0, 40, "sees", 3, 3);

        Check.sentence("An IMAGE (0, 1) is kept. BAD");
        range(NEW, 0, 0, 1, "keep", 0);
        range(RICH, 0, 0, 1, "keep", 0);
        range(LADEN, 0, 0, 1, "keep", 0);

        Check.sentence("All of that becomes as an IMAGE (0, 1) has it. BAD");
        range(NEW, 0, 0, 1, "back", 0);
        range(RICH, 0, 0, 1, "back", 0);
        range(LADEN, 0, 0, 1, "back", 0);

        Check.sentence("0 CASKS .. 5 how many may be UNDONE. BAD");
        range(NEW, 0, 0, 5, "count", 0);
        range(LADEN, 0, 0, 5, "count", 0);
    }

    private static void allNumbersWrong() {
        Check.sentence("BAD (a number is not as told): all of them at once");
        int[] odd = {LEAST, -7, MOST};
        for (int a : odd) {
            refused(RICH, BAD, "type", a);
            for (int b : odd) {
                for (String name : new String[] {"draws", "cask", "under", "dip", "sees"}) {
                    refused(RICH, BAD, name, a, b);
                }
                for (int c : odd) {
                    for (String name : new String[] {"fills", "pours", "slice", "stick", "known", "shares"}) {
                        refused(RICH, BAD, name, a, b, c);
                    }
                }
            }
        }
    }

    private static void withoutCasks() {
        Check.sentence("CASKS 0, 1, .. (none at first); there is no such thing: BAD");
        withoutCasks(NEW);
        Check.sentence("ITEMS (none, too): there are no CASKS behind an empty text, whatever was there");
        withoutCasks(x -> {
            RICH.accept(x);
            Check.tell(x, "");
        });
        fewerCasks();
    }

    private static void withoutCasks(Consumer<CaskGauge> past) {
        for (int c = 0; c <= 4; c++) {
            refused(past, BAD, "fills", c, 1, 0);
            refused(past, BAD, "draws", c, 1);
            refused(past, BAD, "pours", c, (c + 1) % 4, 1);
            refused(past, BAD, "turnsOver", c);
            refused(past, BAD, "slice", c, 0, 0);
            refused(past, BAD, "slice", c, 0, -1);
            refused(past, BAD, "under", c, 0);
            refused(past, BAD, "dip", c, 0);
            refused(past, BAD, "stick", c, 2, 1);
            refused(past, BAD, "known", c, 0, 0);
            refused(past, BAD, "shares", c, 2, -1);
            for (int what = 0; what <= 8; what++) {
                refused(past, BAD, "cask", c, what);
            }
        }
        refused(past, NONE, "all", 0);
        refused(past, NONE, "all", 1);
        refused(past, NONE, "ask");
        refused(past, 0, "which");
        Check.due(Trace.after(past), 0, "keep", 0);
    }

    private static void fewerCasks() {
        Check.sentence("a CASK that was there ahead of another text is no such thing");
        Consumer<CaskGauge> fewer = x -> {
            RICH.accept(x);
            x.clear();
            Check.tell(x, "cask 1 2 2;");
        };
        for (int c = 1; c <= 3; c++) {
            refused(fewer, BAD, "fills", c, 1, 0);
            refused(fewer, BAD, "pours", 0, c, 1);
            refused(fewer, BAD, "pours", c, 0, 1);
            refused(fewer, BAD, "turnsOver", c);
            refused(fewer, BAD, "cask", c, 4);
            refused(fewer, BAD, "under", c, 0);
        }
    }

    private static void badAheadOfState() {
        Check.sentence("BAD ahead of STATE: draws()");
        refused(BARE, BAD, "draws", 0, 0);
        refused(BARE, BAD, "draws", 0, LEAST);
        refused(BARE, BAD, "draws", 2, 1);
        refused(BARE, BAD, "draws", -1, MOST);
        refused(RICH, BAD, "draws", 4, MOST);
        Check.sentence("BAD ahead of STATE: pours()");
        refused(BARE, BAD, "pours", 0, 0, 1);
        refused(BARE, BAD, "pours", 0, 2, 1);
        refused(BARE, BAD, "pours", 0, -1, 1);
        refused(BARE, BAD, "pours", 2, 0, 1);
        refused(BARE, BAD, "pours", 0, 1, 0);
        refused(RICH, BAD, "pours", 0, 0, 91);
        refused(RICH, BAD, "pours", 0, 4, MOST);
        Check.sentence("BAD ahead of STATE: shares() (z for m 2, too)");
        refused(BARE, BAD, "shares", 0, 1, 0);
        refused(BARE, BAD, "shares", 0, 4, 0);
        refused(BARE, BAD, "shares", 0, 2, 1);
        refused(BARE, BAD, "shares", 0, 2, -2);
        refused(BARE, BAD, "shares", 0, 3, 4);
        refused(BARE, BAD, "shares", 2, 3, 0);
        Check.sentence("BAD ahead of STATE: back()");
        refused(NEW, BAD, "back", 2);
        refused(NEW, BAD, "back", -1);
        refused(BARE, BAD, "back", MOST);
        refused(RICH, BAD, "back", LEAST);
    }

    private static void badAheadOfFull() {
        Check.sentence("BAD ahead of FULL: type()");
        refused(LADEN, BAD, "type", 256);
        refused(LADEN, BAD, "type", -1);
        Check.sentence("BAD ahead of FULL: fills()");
        refused(LADEN, BAD, "fills", 0, 1, 2);
        refused(LADEN, BAD, "fills", 0, 1, -1);
        refused(LADEN, BAD, "fills", 0, MOST, LEAST);
        refused(LADEN, BAD, "fills", 0, MOST - 1, MOST);
        refused(LADEN, BAD, "fills", 2, MOST, 0);
        refused(LADEN, BAD, "fills", 0, 0, 0);
        Check.sentence("BAD ahead of FULL: pours()");
        refused(LADEN, BAD, "pours", 0, 0, 1);
        refused(LADEN, BAD, "pours", 0, 0, 8);
        refused(LADEN, BAD, "pours", 1, 0, 0);
        refused(LADEN, BAD, "pours", 2, 0, 1);
        Check.sentence("BAD ahead of FULL: sees()");
        refused(LADEN, BAD, "sees", -1, 0);
        refused(LADEN, BAD, "sees", 100000, 0);
        refused(LADEN, BAD, "sees", 0, -1);
        refused(LADEN, BAD, "sees", 0, 41);
    }

    private static void stateAheadOfFull() {
        Check.sentence("STATE ahead of FULL: pours()");
        refused(LADEN, STATE, "pours", 1, 0, 10);
        refused(LADEN, STATE, "pours", 1, 0, MOST);
        refused(LADEN, STATE, "pours", 0, 1, 9);
        refused(BARE, STATE, "pours", 0, 1, 17);
        refused(RICH, STATE, "pours", 2, 1, 1);
        refused(RICH, STATE, "pours", 0, 2, 91);
    }

    private static void refusedAlone() {
        Check.sentence("FULL: 60");
        for (int letter : new int[] {0, 32, ';', 'c', 255}) {
            refused(LADEN, FULL, "type", letter);
        }
        Check.sentence("FULL: there would be more than HOLD");
        refused(BARE, FULL, "fills", 0, 9, 0);
        refused(BARE, FULL, "fills", 1, 17, 17);
        refused(RICH, FULL, "fills", 0, 115, 0);
        refused(RICH, FULL, "fills", 1, 1, 1);
        refused(RICH, FULL, "fills", 2, 1, 0);
        refused(RICH, FULL, "fills", 3, 12, 0);
        refused(LADEN, FULL, "fills", 1, 8, 0);
        refused(RICH, FULL, "fills", 0, MOST, 0);
        refused(RICH, FULL, "fills", 0, MOST - 89, MOST - 89);
        refused(RICH, FULL, "fills", 0, MOST, MOST);
        Check.sentence("STATE: it has less");
        refused(BARE, STATE, "draws", 0, 1);
        refused(RICH, STATE, "draws", 0, 91);
        refused(RICH, STATE, "draws", 1, 9);
        refused(RICH, STATE, "draws", 2, 1);
        refused(RICH, STATE, "draws", 3, 6);
        refused(RICH, STATE, "draws", 0, MOST);
        Check.sentence("STATE: the first one has less");
        refused(RICH, STATE, "pours", 3, 0, 6);
        refused(RICH, STATE, "pours", 2, 0, 1);
        refused(BARE, STATE, "pours", 0, 1, 1);
        Check.sentence("FULL: the other one would have more than HOLD");
        refused(RICH, FULL, "pours", 0, 3, 12);
        refused(RICH, FULL, "pours", 0, 1, 1);
        refused(RICH, FULL, "pours", 0, 2, 1);
        refused(LADEN, FULL, "pours", 1, 0, 9);
        refused(LADEN, FULL, "pours", 0, 1, 8);
        Check.sentence("UNDONE. STATE: none");
        refused(NEW, STATE, "undo");
        refused(x -> {
            LADEN.accept(x);
            x.back(0);
        }, STATE, "undo");
        Check.sentence("SHARED. STATE: no WINE");
        for (int k = -1; k <= 3; k++) {
            refused(BARE, STATE, "shares", 0, 3, k);
            refused(RICH, STATE, "shares", 2, 3, k);
        }
        refused(BARE, STATE, "shares", 1, 2, 0);
        Check.sentence("FULL: 6");
        refused(LADEN, FULL, "sees", 0, 0);
        refused(LADEN, FULL, "sees", 4, 1);
        refused(LADEN, FULL, "sees", 99999, 40);
        Check.sentence("STATE: none was kept");
        refused(NEW, STATE, "back", 0);
        refused(NEW, STATE, "back", 1);
        refused(RICH, STATE, "back", 1);
        Check.sentence("-10 less FAULT: nothing changes, THE TEXT stays");
        for (Consumer<CaskGauge> past : pasts()) {
            for (String text : new String[] {"x", "cask", "cask 1 1 1", "cask 5 6 7;stands 1;", "stands 0;"}) {
                Consumer<CaskGauge> typed = x -> {
                    past.accept(x);
                    x.clear();
                    Check.type(x, text);
                };
                Check.hold("'" + text + "' has a fault", Trace.after(typed).tells() <= -10);
                same(typed, "tells");
            }
        }
    }

    private static void badAheadOfNone() {
        Check.sentence("BAD where NONE would be answered, were the number as told");
        refused(NEW, BAD, "all", 2);
        refused(BARE, BAD, "all", -1);
        refused(BARE, BAD, "cask", 0, 9);
        refused(BARE, BAD, "cask", 2, 8);
        refused(RICH, BAD, "known", 2, 3, 0);
        refused(RICH, BAD, "known", 2, 1, 2);
        refused(BARE, NONE, "all", 0);
        refused(BARE, NONE, "all", 1);
        refused(BARE, NONE, "cask", 0, 8);
        refused(RICH, NONE, "cask", 2, 8);
        refused(RICH, NONE, "known", 2, 2, 1);
    }

    private static void askedChangesNothing() {
        Check.sentence("(Nothing is changed.)");
        for (Consumer<CaskGauge> past : pasts()) {
            for (int a = 0; a <= 3; a++) {
                same(past, "all", a % 2);
                for (int b = 0; b <= 8; b++) {
                    same(past, "cask", a, b);
                }
                same(past, "slice", a, 0, -1);
                same(past, "slice", a, 0, 1);
                same(past, "under", a, 1);
                same(past, "dip", a, 8);
                same(past, "stick", a, 3, 2);
                same(past, "known", a, 1, 1);
                for (int k = -1; k <= 3; k++) {
                    same(past, "shares", a, 2, k);
                    same(past, "shares", a, 3, k);
                }
            }
            same(past, "which");
            same(past, "ask");
            for (int what = 0; what <= 5; what++) {
                same(past, "count", what);
            }
        }
    }
}
