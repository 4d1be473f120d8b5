import java.util.function.Consumer;

/**
 * All that can be learnt of an object's state: its casks, what its text would tell, what can be undone, its images,
 * what was seen. Learning it uses an object up, so each part of it is learnt from a new object of the same past.
 */
final class Trace {
    private static final int MOST_UNDONE = 8;
    /** Casks that differ in their dips, so that which() tells what was seen though the object's own casks are alike. */
    private static final String OTHERS = "cask1 2 2;cask2 2 2;cask1 5 5;cask3 1 5;";

    private Trace() {
    }

    static String of(Consumer<CaskGauge> past) {
        return "asked: " + asked(after(past)) + "\ntext: " + textOf(after(past)) + "\nroom: " + roomOf(after(past))
            + "\nundone: " + undoneOf(after(past)) + "\nimage 0: " + imageOf(after(past), 0)
            + "\nimage 1: " + imageOf(after(past), 1) + "\nseen: " + seenOf(after(past));
    }

    static CaskGauge after(Consumer<CaskGauge> past) {
        CaskGauge x = new CaskGauge();
        past.accept(x);
        return x;
    }

    /** Without using it up: CASKS, WINE, SPIRIT and how much there is of all else. */
    static String state(CaskGauge x) {
        StringBuilder all = new StringBuilder();
        for (int c = 0; c < 4; c++) {
            for (int what : new int[] {0, 1, 2, 3, 5, 6}) {
                all.append(x.cask(c, what)).append(' ');
            }
            all.append("| ");
        }
        for (int what = 0; what <= 5; what++) {
            all.append(x.count(what)).append(' ');
        }
        return all.append("| ").append(x.which()).toString();
    }

    private static String asked(CaskGauge x) {
        StringBuilder all = new StringBuilder(state(x)).append(" |");
        for (int c = 0; c < 4; c++) {
            int[] answers = {x.cask(c, 4), x.cask(c, 7), x.cask(c, 8), x.slice(c, 0, -1), x.slice(c, 0, 1), x.under(c, 1),
                x.dip(c, 1), x.stick(c, 2, 1), x.known(c, 1, 1), x.shares(c, 2, -1), x.shares(c, 3, 1)};
            for (int answer : answers) {
                all.append(' ').append(answer);
            }
        }
        return all.append(" | ").append(x.ask()).append(' ').append(x.all(0)).append(' ').append(x.all(1)).toString();
    }

    private static String textOf(CaskGauge x) {
        return x.tells() + ": " + state(x);
    }

    private static String roomOf(CaskGauge x) {
        int room = 0;
        while (room < 99 && x.type(' ') > 0) {
            room++;
        }
        return room + " then " + x.tells();
    }

    private static String undoneOf(CaskGauge x) {
        StringBuilder all = new StringBuilder();
        for (int i = 0; i <= MOST_UNDONE; i++) {
            all.append(x.undo()).append(": ").append(state(x)).append(" / ");
        }
        return all.toString();
    }

    private static String imageOf(CaskGauge x, int image) {
        return x.back(image) + ": " + state(x);
    }

    private static String seenOf(CaskGauge x) {
        Check.tell(x, OTHERS);
        return x.which() + " " + x.ask() + " " + x.forget() + " " + x.which();
    }
}
