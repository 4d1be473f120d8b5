/** The sentences on THE TEXT (promises 2, 3, 4), each at its edges. */
public final class TextBoundariesTest {
    private static final int FULL = Check.FULL;
    private static final int MOST_LETTERS = 60;
    /** 60 letters without a fault. */
    private static final String LONGEST = "cask12 20 20;cask12 20 20;cask12 20 20;cask12 20 20;stands3;";
    private static final String FOUR = "cask1 1 1;cask1 1 1;cask1 1 1;cask1 1 1;";

    public static void main(String[] args) {
        sixtyLetters();
        cleared();
        blanks();
        blanksNeeded();
        noItems();
        itemsAreEnded();
        fourCasks();
        slices();
        headAndBelly();
        liesAtFirst();
        stands();
        standsWithoutCasks();
        words();
        otherLetters();
        figures();
        firstFault();
        endsTooEarly();
        textStays();
        toldAnew();
        Check.end("text boundaries");
    }

    private static int told(String text) {
        return Check.tell(new CaskGauge(), text);
    }

    private static void well(String text, int items) {
        Check.due("tells() of '" + text + "'", told(text), items);
    }

    private static void fault(String text, int place) {
        Check.due("tells() of '" + text + "'", told(text), -10 - place);
    }

    private static void sixtyLetters() {
        Check.sentence("THE TEXT is told letter by letter (60 letters at most)");
        Check.due("its length", LONGEST.length(), MOST_LETTERS);
        CaskGauge x = new CaskGauge();
        for (int i = 0; i < MOST_LETTERS; i++) {
            Check.due(x, i, "count", 4);
            Check.due(x, i + 1, "type", LONGEST.charAt(i));
        }
        Check.due(x, FULL, "type", ';');
        Check.due(x, FULL, "type", ' ');
        Check.due(x, MOST_LETTERS, "count", 4);
        Check.due(x, 5, "tells");
        Check.due(x, 0, "cask", 3, 3);
        Check.due(x, 20, "cask", 3, 2);
        Check.due(x, 1, "type", ';');

        Check.sentence("60 letters: all of them count, as many ITEMS as there can be");
        well("cask1 1 1;stands0;stands0;stands0;stands0;stands0;stands0;", 7);
        well("cask1 1 1;stands0;stands0;stands0;stands0;stands0;stands0;  ", 7);
        well(" ".repeat(50) + "cask1 1 1;", 1);
        fault(";".repeat(MOST_LETTERS), 0);
        fault(" ".repeat(59) + ";", 59);
        fault(" ".repeat(58) + "xy", 58);
        fault("1".repeat(MOST_LETTERS), 0);
        fault("a".repeat(MOST_LETTERS), 0);
    }

    private static void cleared() {
        Check.sentence("THE TEXT is empty: how many letters it had");
        CaskGauge x = new CaskGauge();
        Check.due(x, 0, "clear");
        x.type('x');
        Check.due(x, 1, "clear");
        Check.due(x, 0, "clear");
        Check.type(x, LONGEST);
        Check.due(x, MOST_LETTERS, "clear");
        Check.due(x, 0, "count", 4);
        Check.type(x, "x".repeat(MOST_LETTERS + 5));
        Check.due(x, MOST_LETTERS, "clear");
        Check.due(x, 0, "tells");
        Check.type(x, LONGEST);
        Check.due(x, 5, "tells");
        Check.due(x, 0, "clear");
        Check.due(x, 4, "count", 0);
    }

    private static void blanks() {
        Check.sentence("blanks (32) may stand ahead of, between and behind TOKENS");
        String[] tokens = {"cask", "1", "2", "3", ";", "stands", "0", ";"};
        for (int gap = 0; gap <= tokens.length; gap++) {
            for (int many = 0; many <= 9; many++) {
                StringBuilder text = new StringBuilder();
                for (int t = 0; t <= tokens.length; t++) {
                    text.append(" ".repeat(t == gap ? Math.max(many, t == 2 || t == 3 ? 1 : 0) : 1));
                    text.append(t < tokens.length ? tokens[t] : "");
                }
                well(text.toString(), 2);
            }
        }
        Check.sentence("a TOKEN has no blanks in it");
        fault("ca sk 1 2 3;", 0);
        fault("cask 1 2 3;stand s 0;", 11);
        fault("cask 1 2 2 0;", 11);
        fault("cask 1 2 1 2;", 9);
    }

    private static void blanksNeeded() {
        Check.sentence("needed between two NUMBERS alone");
        well("cask1 2 3;stands0;cask4 5 6;", 3);
        fault("cask12 3;", 8);
        fault("cask1 23;", 6);
        fault("cask1 12;", 8);
        fault("cask123;", 4);
        fault("cask12;", 6);
        fault("caskstands0;", 0);
        fault("cask1 2 3;stands0cask1 2 3;", 17);
        fault("cask1 2 3cask1 2 3;", 9);
    }

    private static void noItems() {
        Check.sentence("It tells CASKS by ITEMS (none, too)");
        for (int many = 0; many <= MOST_LETTERS; many++) {
            well(" ".repeat(many), 0);
        }
        CaskGauge x = Check.told(FOUR);
        Check.due(x, 0, "tells");
        Check.due(x, 0, "count", 0);
        Check.due(x, 2, "count", 5);
        Check.due(x, 1, "undo");
        Check.due(x, 4, "count", 0);
    }

    private static void itemsAreEnded() {
        Check.sentence("each ended by ;");
        well("cask 1 2 3;", 1);
        fault("cask 1 2 3", 10);
        fault("cask 1 2 3 cask 1 2 3;", 11);
        fault("cask 1 2 3 stands 0;", 11);
        fault("cask 1 2 3;stands 0", 19);
        fault("cask 1 2 3;stands 0 stands 0;", 20);
        fault("cask 1 2 3;stands 0 1;", 20);
        fault("cask 1 2 3 4;", 11);
        fault("cask 1 2 3;;", 11);
        fault(";", 0);
        fault(" ;cask 1 2 3;", 1);
        fault("cask 1 2 3:", 10);
    }

    private static void fourCasks() {
        Check.sentence("CASKS 0, 1, .. (4 at most); FAULT: a fifth cask at that word");
        for (int many = 0; many <= 4; many++) {
            CaskGauge x = new CaskGauge();
            Check.due("tells() of " + many, Check.tell(x, FOUR.substring(0, 10 * many)), many);
            Check.due(x, many, "count", 0);
            Check.due(x, many == 0 ? Check.BAD : 1, "cask", many - 1, 0);
            Check.due(x, Check.BAD, "cask", many, 0);
        }
        well(FOUR + "stands0;stands3;", 6);
        fault(FOUR + "cask1 1 1;", 40);
        fault(FOUR + "  cask1 1 1;", 42);
        fault(FOUR + "cask", 40);
        fault(FOUR + "cask 0 0 0", 40);
        fault(FOUR + "stands0;cask1 1 1;", 48);
        fault(FOUR + "stands4;", 46);
        fault(FOUR + "casks", 40);
    }

    /** Numbers 0 to 99, written plainly, at one place of an item. */
    private static void slices() {
        Check.sentence("SLICES (1 to 12)");
        for (int s = 0; s <= 99; s++) {
            String text = "cask " + s + " 1 1;";
            if (s >= 1 && s <= 12) {
                CaskGauge x = Check.told(text);
                Check.due(x, s, "cask", 0, 0);
            } else {
                fault(text, 5);
            }
        }
    }

    private static void headAndBelly() {
        Check.sentence("HEAD (1 to 20), BELLY (HEAD to 20)");
        for (int h = 0; h <= 99; h++) {
            for (int b = 0; b <= 99; b++) {
                String text = "cask 1 " + h + " " + b + ";";
                if (h < 1 || h > 20) {
                    fault(text, 7);
                } else if (b < h || b > 20) {
                    fault(text, 8 + (h > 9 ? 2 : 1));
                } else {
                    CaskGauge x = Check.told(text);
                    Check.due(x, h, "cask", 0, 1);
                    Check.due(x, b, "cask", 0, 2);
                }
            }
        }
    }

    private static void liesAtFirst() {
        Check.sentence("it LIES (at first) or stands");
        CaskGauge x = Check.told(FOUR + "stands 1;stands 2;");
        int[] lies = {1, 0, 0, 1};
        for (int c = 0; c <= 3; c++) {
            Check.due(x, lies[c], "cask", c, 3);
        }
        Check.tell(x, FOUR);
        for (int c = 0; c <= 3; c++) {
            Check.due(x, 1, "cask", c, 3);
        }
    }

    private static void stands() {
        Check.sentence("stands C (CASK C, told ahead, stands)");
        for (int many = 1; many <= 4; many++) {
            for (int c = 0; c <= 99; c++) {
                String text = FOUR.substring(0, 10 * many) + "stands " + c + ";";
                if (c >= many) {
                    fault(text, 10 * many + 7);
                    continue;
                }
                CaskGauge x = Check.told(text);
                for (int d = 0; d < many; d++) {
                    Check.due(x, d == c ? 0 : 1, "cask", d, 3);
                }
            }
        }
        fault("cask1 1 1;stands1;cask1 1 1;", 16);
        well("cask1 1 1;stands0;cask1 1 1;stands1;", 4);
        Check.sentence("stands C again: well");
        CaskGauge x = new CaskGauge();
        Check.due("tells()", Check.tell(x, "cask1 1 1;stands0;stands0;stands0;"), 4);
        Check.due(x, 0, "cask", 0, 3);
        Check.due(x, 1, "turnsOver", 0);
    }

    private static void standsWithoutCasks() {
        Check.sentence("a NUMBER beyond what it may be, too: behind stands without CASKS told ahead any");
        for (int c = 0; c <= 99; c++) {
            fault("stands " + c + ";", 7);
            fault("  stands" + c, 8);
        }
        fault("stands", 6);
        fault("stands ", 7);
        fault("stands ;", 7);
        fault("stands x", 7);
        fault("stands stands", 7);
        Check.sentence("told ahead: by this text, not by one that was told");
        CaskGauge x = Check.told(FOUR);
        Check.due("tells() of 'stands 0;'", Check.tell(x, "stands 0;"), -17);
        Check.due("tells() of a fewer", Check.tell(x, "cask1 1 1;stands 1;"), -27);
        Check.due(x, 4, "count", 0);
    }

    private static void words() {
        Check.sentence("words (rows of letters a to z: cask, stands); FAULT of a word that is neither");
        fault("a", 0);
        fault("z", 0);
        for (String word : new String[] {"cask", "stands"}) {
            for (int at = 0; at <= word.length(); at++) {
                for (char letter = 'a'; letter <= 'z'; letter++) {
                    String longer = word.substring(0, at) + letter + word.substring(at);
                    fault("cask 1 1 1;" + longer + " 0;", 11);
                    if (at < word.length() && letter != word.charAt(at)) {
                        String other = word.substring(0, at) + letter + word.substring(at + 1);
                        fault("cask 1 1 1; " + other + " 0;", 12);
                    }
                }
                if (at > 0 && at < word.length()) {
                    fault(word.substring(0, at), 0);
                    fault(word.substring(at), 0);
                }
            }
        }
        fault("CASK 1 1 1;", 0);
        fault("Cask 1 1 1;", 0);
        fault("casK 1 1 1;", 0);
        fault("caskK 1 1 1;", 4);
        fault("ksac 1 1 1;", 0);
    }

    /** A letter that is no blank, no figure, no ; and not a to z. */
    private static boolean isOther(int letter) {
        return letter != 32 && letter != 59 && (letter < 48 || letter > 57) && (letter < 97 || letter > 122);
    }

    private static void otherLetters() {
        Check.sentence("FAULT of any other letter (each is a TOKEN by itself)");
        int others = 0;
        for (int letter = 0; letter <= 255; letter++) {
            if (!isOther(letter)) {
                continue;
            }
            others++;
            String sign = String.valueOf((char) letter);
            fault(sign, 0);
            fault("   " + sign + "cask 1 2 3;", 3);
            fault("ca" + sign + "sk 1 2 3;", 0);
            fault("cask" + sign + "1 2 3;", 4);
            fault("cask " + sign + " 1 2 3;", 5);
            fault("cask 1" + sign + "2 3;", 6);
            fault("cask 1 2 " + sign + " 3;", 9);
            fault("cask 1 2 3" + sign, 10);
            fault("cask 1 2 3" + sign + ";", 10);
            fault("cask 1 2 3;" + sign, 11);
            fault("cask 1 2 3;stands" + sign + sign + "0;", 17);
            fault("cask 1 2 3;stands 0;" + " ".repeat(39) + sign, 59);
        }
        Check.due("how many others there are", others, 256 - 1 - 1 - 10 - 26);
    }

    private static void figures() {
        Check.sentence("FAULT of a NUMBER of more than two figures or with a 0 ahead of another one");
        String[] wrong = {"00", "01", "02", "09", "000", "001", "010", "011", "012", "0000000001", "100", "101", "111", "120",
            "999", "1000", "4294967297", "18446744073709551617", "1".repeat(40)};
        for (String number : wrong) {
            fault(number, 0);
            fault("cask " + number + " 1 1;", 5);
            fault("cask 1 " + number + " 20;", 7);
            fault("cask 1 1 " + number + ";", 9);
            fault("cask1 1 1;stands " + number + ";", 17);
        }
        Check.sentence("one figure and two figures: NUMBERS, 0 and those that end with 0 too");
        well("cask 1 1 1;stands 0;", 2);
        well("cask 9 9 9;", 1);
        well("cask 10 10 10;", 1);
        well("cask 10 20 20;", 1);
        well("cask 12 19 20;", 1);
    }

    /** Every place of an item, with every kind of token: it goes on behind those that can stand there alone. */
    private static void firstFault() {
        Check.sentence("FAULT: the place of the first letter of the first TOKEN that can't stand there");
        String[] ahead = {"", "cask 1 1 1;", "cask ", "cask 1 ", "cask 1 1 ", "cask 1 1 1 ", "cask 1 1 1;stands ",
            "cask 1 1 1;stands 0 "};
        String[] tokens = {"cask", "stands", "0", "1", "12", "13", "20", "21", ";", "x", "@", "100", "01"};
        String[] canStand = {"cask stands", "cask stands", "1 12", "1 12 13 20", "1 12 13 20", ";", "0", ";"};
        for (int at = 0; at < ahead.length; at++) {
            for (String token : tokens) {
                boolean can = (" " + canStand[at] + " ").contains(" " + token + " ");
                String text = ahead[at] + token;
                if (can && token.equals(";")) {
                    well(text, at == 5 ? 1 : 2);
                } else {
                    fault(text, can ? text.length() : ahead[at].length());
                }
                if (!can) {
                    fault(text + " 0 x cask @ 100;", ahead[at].length());
                }
            }
        }
    }

    private static void endsTooEarly() {
        Check.sentence("FAULT: the text's length, if it ends too early");
        String text = "cask 12 15 20 ;stands 0; ";
        // places that a cut after so many letters faults at; from 100 on: so many items less 100
        int[] want = {100, 0, 0, 0, 4, 5, 6, 7, 8, 9, 10, 11, 11, 13, 14, 101, 15, 15, 15, 15, 15, 21, 22, 23, 102, 102};
        // cut behind '1' of 15 it is a NUMBER too; behind '2' of 20 it is one below HEAD
        for (int cut = 0; cut <= text.length(); cut++) {
            if (want[cut] >= 100) {
                well(text.substring(0, cut), want[cut] - 100);
            } else {
                fault(text.substring(0, cut), want[cut]);
            }
        }
        fault("cask          ", 14);
        fault("cask 1 1 1       ", 17);
        fault("cask 1 1 1;stands" + " ".repeat(43), 60);
        fault(LONGEST.substring(0, 59), 59);
        fault(LONGEST.substring(0, 59) + " ", 60);
        fault(LONGEST.substring(0, 59) + "x", 59);
    }

    private static void textStays() {
        Check.sentence("-10 less FAULT: nothing changes, THE TEXT stays");
        CaskGauge x = Check.told(FOUR);
        Check.type(x, "cask 12 20");
        Check.due(x, -20, "tells");
        Check.due(x, -20, "tells");
        Check.due(x, 10, "count", 4);
        Check.due(x, 4, "count", 0);
        Check.due(x, 11, "type", ' ');
        Check.due(x, -21, "tells");
        Check.type(x, "20");
        Check.due(x, -23, "tells");
        Check.due(x, 14, "type", ';');
        Check.due(x, 1, "count", 5);
        Check.due(x, 1, "tells");
        Check.due(x, 1, "count", 0);
        Check.due(x, 12, "cask", 0, 0);
        Check.due(x, 2, "count", 5);

        Check.sentence("a fault behind ITEMS without one: not one of these is told");
        Check.tell(x, FOUR + "stands 0; y");
        Check.due(x, 1, "count", 0);
        Check.due(x, 1, "cask", 0, 3);
        Check.due(x, 51, "count", 4);
        Check.due(x, 1, "undo");
        Check.due(x, 4, "count", 0);
        Check.due(x, 1, "cask", 0, 3);
    }

    private static void toldAnew() {
        Check.sentence("THE TEXT tells CASKS anew, and is empty then: how many ITEMS");
        CaskGauge x = Check.told("cask 3 4 5;cask 2 2 2;stands 0;");
        Check.due(x, 0, "count", 4);
        Check.due(x, 2, "count", 0);
        Check.due(x, 1, "type", 'c');
        Check.type(x, "ask 1 2 2;");
        Check.due(x, 1, "tells");
        Check.due(x, 1, "count", 0);
        Check.due(x, 1, "cask", 0, 0);
        Check.due(x, 1, "cask", 0, 3);
        Check.due(x, Check.BAD, "cask", 1, 0);

        Check.sentence("DONE: a text told (no WINE then)");
        x.fills(0, 8, 5);
        Check.due("tells() of the same", Check.tell(x, "cask 1 2 2;"), 1);
        Check.due(x, 0, "cask", 0, 5);
        Check.due(x, 0, "cask", 0, 6);
        Check.due(x, 8, "fills", 0, 8, 8);

        Check.sentence("(A text told: what was SEEN, IMAGES stay.)");
        x.keep(1);
        x.sees(8, 4);
        x.sees(0, 0);
        Check.due("tells() of others", Check.tell(x, "cask 1 1 1;cask 1 2 2;"), 2);
        Check.due(x, 2, "count", 3);
        Check.due(x, 2, "which");
        Check.due(x, Check.STATE, "back", 0);
        Check.due(x, 1, "back", 1);
        Check.due(x, 8, "cask", 0, 6);
    }
}
