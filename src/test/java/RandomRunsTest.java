import java.util.Random;

/** Runs of up to 512 calls, drawn from fixed seeds, answered by the program and by the model alike. */
public final class RandomRunsTest {
    private static final int RUNS = 1500;
    private static final int[] ODD = {Integer.MIN_VALUE, Integer.MIN_VALUE + 1, -10, -2, -1, 0, 1, 2, 3, 4, 5, 6, 7, 8, 9,
        10, 12, 13, 19, 20, 21, 39, 40, 41, 60, 255, 256, 999, 1000, 99999, 100000, 1 << 30, Integer.MAX_VALUE};

    private static int wrong = 0;
    private static int calls = 0;
    private static int told = 0;
    private static int refusedTexts = 0;

    private final Random random;
    private final int run;
    private final CaskGauge gauge = new CaskGauge();
    private final Model model = new Model();
    private int left = 512;
    private boolean off = false;

    private RandomRunsTest(int run) {
        this.run = run;
        random = new Random(run);
    }

    public static void main(String[] args) {
        for (int run = 0; run < RUNS && wrong < 20; run++) {
            new RandomRunsTest(run).play();
        }
        System.out.println("random runs: " + calls + " calls, " + told + " texts told, " + refusedTexts
            + " refused, " + wrong + " wrong");
        if (wrong != 0 || told < RUNS || refusedTexts < RUNS) {
            System.exit(1);
        }
    }

    private void play() {
        if (random.nextInt(4) != 0) {
            tell(text());
        }
        while (left > 0 && !off) {
            step();
        }
    }

    private int due(String call, int got, int want) {
        left--;
        calls++;
        if (got != want) {
            wrong++;
            off = true;
            System.out.println("run " + run + ", " + left + " calls left: " + call + " answered " + got + ", due is " + want);
        }
        return want;
    }

    private int odd() {
        return ODD[random.nextInt(ODD.length)];
    }

    /** Mostly from least to greatest, now and then an odd number. */
    private int about(int least, int greatest) {
        return random.nextInt(15) == 0 ? odd() : least + random.nextInt(Math.max(1, greatest - least + 1));
    }

    private int anyCask() {
        return about(0, Math.max(0, model.count(0) - 1));
    }

    private int rest(int cask) {
        return Math.max(1, model.cask(cask, 4) - model.cask(cask, 5));
    }

    private String text() {
        StringBuilder text = new StringBuilder();
        int casks = 0;
        int items = random.nextInt(6);
        for (int i = 0; i < items; i++) {
            blanks(text, 0);
            if (casks > 0 && random.nextInt(3) == 0) {
                text.append("stands");
                blanks(text, 0);
                text.append(about(0, casks - 1));
            } else {
                int head = 1 + random.nextInt(random.nextBoolean() ? 20 : 4);
                text.append("cask");
                blanks(text, 0);
                text.append(about(1, 12));
                blanks(text, 1);
                text.append(head);
                blanks(text, 1);
                text.append(random.nextBoolean() ? Math.min(20, head + random.nextInt(3)) : about(head, 20));
                casks++;
            }
            blanks(text, 0);
            text.append(';');
            blanks(text, 0);
        }
        return random.nextInt(3) == 0 ? spoiled(text) : text.toString();
    }

    private void blanks(StringBuilder text, int least) {
        int many = random.nextInt(12) == 0 ? least + random.nextInt(3) : least;
        text.append(" ".repeat(many));
    }

    private String spoiled(StringBuilder text) {
        String signs = "acdknst0012349;; AZ`{/:\u0000\n\u00ff";
        for (int i = random.nextInt(2); i >= 0; i--) {
            int at = random.nextInt(text.length() + 1);
            char sign = signs.charAt(random.nextInt(signs.length()));
            if (random.nextBoolean() || at == text.length()) {
                text.insert(at, sign);
            } else if (random.nextBoolean()) {
                text.setCharAt(at, sign);
            } else {
                text.deleteCharAt(at);
            }
        }
        return random.nextInt(4) == 0 ? text.substring(0, random.nextInt(text.length() + 1)) : text.toString();
    }

    private void tell(String text) {
        if (left < 70) {
            return;
        }
        for (int i = 0; i < text.length(); i++) {
            int letter = text.charAt(i);
            due("type(" + letter + ")", gauge.type(letter), model.type(letter));
        }
        if (due("tells() of '" + text + "'", gauge.tells(), model.tells()) >= 0) {
            told++;
        } else {
            refusedTexts++;
            due("count(4)", gauge.count(4), model.count(4));
            due("clear()", gauge.clear(), model.clear());
        }
    }

    private void step() {
        int c = anyCask();
        switch (random.nextInt(27)) {
            case 0 -> tellNowAndThen();
            case 1, 2, 3 -> fill(c);
            case 4 -> {
                int n = about(1, Math.max(1, model.cask(c, 5)));
                due("draws(" + c + ", " + n + ")", gauge.draws(c, n), model.draws(c, n));
            }
            case 5, 6 -> {
                int to = anyCask();
                int n = about(1, Math.max(1, Math.min(model.cask(c, 5), rest(to))));
                due("pours(" + c + ", " + to + ", " + n + ")", gauge.pours(c, to, n), model.pours(c, to, n));
            }
            case 7 -> due("turnsOver(" + c + ")", gauge.turnsOver(c), model.turnsOver(c));
            case 8 -> due("undo()", gauge.undo(), model.undo());
            case 9, 10, 11 -> {
                int what = about(0, 8);
                due("cask(" + c + ", " + what + ")", gauge.cask(c, what), model.cask(c, what));
            }
            case 12 -> {
                int i = about(0, model.cask(c, 0));
                int j = about(-1, 2 * model.cask(c, 2));
                due("slice(" + c + ", " + i + ", " + j + ")", gauge.slice(c, i, j), model.slice(c, i, j));
            }
            case 13 -> {
                int y = about(0, top(c) + 1);
                due("under(" + c + ", " + y + ")", gauge.under(c, y), model.under(c, y));
            }
            case 14 -> {
                int n = random.nextBoolean() ? nearLevel(c) : about(0, model.cask(c, 4));
                due("dip(" + c + ", " + n + ")", gauge.dip(c, n), model.dip(c, n));
            }
            case 15 -> {
                int n = about(2, 9);
                int k = about(1, n);
                due("stick(" + c + ", " + n + ", " + k + ")", gauge.stick(c, n, k), model.stick(c, n, k));
            }
            case 16 -> {
                int y = about(0, top(c) + 1);
                int what = about(0, 1);
                due("known(" + c + ", " + y + ", " + what + ")", gauge.known(c, y, what), model.known(c, y, what));
            }
            case 17, 18 -> {
                int m = about(2, 3);
                int k = about(-1, 3);
                due("shares(" + c + ", " + m + ", " + k + ")", gauge.shares(c, m, k), model.shares(c, m, k));
            }
            case 19 -> {
                int what = about(0, 1);
                due("all(" + what + ")", gauge.all(what), model.all(what));
            }
            case 20 -> see(c);
            case 21 -> {
                due("which()", gauge.which(), model.which());
                if (random.nextInt(6) == 0) {
                    due("forget()", gauge.forget(), model.forget());
                }
            }
            case 22 -> due("ask()", gauge.ask(), model.ask());
            case 23 -> {
                int image = about(0, 1);
                due("keep(" + image + ")", gauge.keep(image), model.keep(image));
            }
            case 24 -> {
                int image = random.nextInt(3) == 0 ? about(0, 1) : odd();
                due("back(" + image + ")", gauge.back(image), model.back(image));
            }
            case 25 -> {
                int what = about(0, 5);
                due("count(" + what + ")", gauge.count(what), model.count(what));
            }
            default -> {
                int letter = about(0, 255);
                due("type(" + letter + ")", gauge.type(letter), model.type(letter));
                if (random.nextInt(3) == 0) {
                    due("clear()", gauge.clear(), model.clear());
                }
            }
        }
    }

    private void tellNowAndThen() {
        if (random.nextInt(3) == 0) {
            due("clear()", gauge.clear(), model.clear());
            tell(text());
        }
    }

    private void fill(int c) {
        int n = random.nextInt(8) == 0 ? rest(c) + random.nextInt(2) : about(1, Math.max(1, rest(c) / 2));
        int m = about(0, n);
        due("fills(" + c + ", " + n + ", " + m + ")", gauge.fills(c, n, m), model.fills(c, n, m));
    }

    private int top(int c) {
        return model.cask(c, 3) == 1 ? 2 * model.cask(c, 2) : model.cask(c, 0);
    }

    /** An amount at which a dip is just reached, or one beside it. */
    private int nearLevel(int c) {
        return model.under(c, random.nextInt(Math.max(1, top(c) + 1))) + random.nextInt(3) - 1;
    }

    /** Mostly what is so for some cask that lies, so that not every cask is ruled out at once. */
    private void see(int c) {
        int n = about(0, Math.max(0, Math.min(model.cask(c, 4), 300)));
        int y = model.cask(c, 3) == 1 && n >= 0 && model.dip(c, n) >= 0 && random.nextInt(8) != 0 ? model.dip(c, n) : about(0, 40);
        due("sees(" + n + ", " + y + ")", gauge.sees(n, y), model.sees(n, y));
    }
}
