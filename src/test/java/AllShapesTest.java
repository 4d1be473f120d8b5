/** Every cask that can be told (12 times 210 shapes), lying and standing, against the model. */
public final class AllShapesTest {
    private static int wrong = 0;
    private static int checks = 0;

    public static void main(String[] args) {
        for (int s = 1; s <= 12; s++) {
            for (int h = 1; h <= 20; h++) {
                for (int b = h; b <= 20; b++) {
                    tryShape("cask " + s + " " + h + " " + b + ";", s, b);
                }
            }
        }
        System.out.println("all shapes: " + checks + " answers, " + wrong + " wrong");
        if (wrong != 0) {
            System.exit(1);
        }
    }

    private static void due(String call, int got, int want) {
        checks++;
        if (got != want && wrong++ < 20) {
            System.out.println(call + " answered " + got + ", due is " + want);
        }
    }

    private static void tryShape(String text, int s, int b) {
        CaskGauge gauge = new CaskGauge();
        Model model = new Model();
        for (int i = 0; i < text.length(); i++) {
            gauge.type(text.charAt(i));
            model.type(text.charAt(i));
        }
        due(text, gauge.tells(), model.tells());
        for (int i = 0; i < s; i++) {
            for (int j = -1; j < 2 * b; j++) {
                due(text + " slice " + i + " " + j, gauge.slice(0, i, j), model.slice(0, i, j));
            }
        }
        tryLevels(text, gauge, model, 2 * b);
        due(text + " turnsOver", gauge.turnsOver(0), model.turnsOver(0));
        tryLevels(text, gauge, model, s);
    }

    private static void tryLevels(String text, CaskGauge gauge, Model model, int top) {
        due(text + " hold", gauge.cask(0, 4), model.cask(0, 4));
        for (int y = -1; y <= top + 1; y++) {
            due(text + " under " + y, gauge.under(0, y), model.under(0, y));
        }
        for (int n = 2; n <= 9; n++) {
            for (int k = 0; k <= n + 1; k++) {
                due(text + " stick " + n + " " + k, gauge.stick(0, n, k), model.stick(0, n, k));
            }
        }
    }
}
