import java.util.ArrayList;
import java.util.List;
import java.util.regex.Matcher;
import java.util.regex.Pattern;

/**
 * The document said again, as slowly and as literally as it reads: every answer is found by
 * trying all that it may be. It shares no code and no way of reckoning with the program.
 */
final class Model {
    static final int BAD = -1, STATE = -2, FULL = -3, NONE = -9;
    private static final Pattern TOKEN = Pattern.compile("[a-z]+|[0-9]+|[^ ]", Pattern.DOTALL);

    record Shape(int s, int h, int b) {
        int radius(int i) {
            long square = (long) (2 * i + 1 - s) * (2 * i + 1 - s);
            return b - (int) Math.floorDiv((b - h) * square, (long) s * s);
        }

        int cells(int i, int j) {
            int r = radius(i);
            int greatest = -1;
            for (int w = 0; w <= 100; w++) {
                if ((2 * w) * (2 * w) + (2 * j + 1 - 2 * b) * (2 * j + 1 - 2 * b) <= (2 * r) * (2 * r)) {
                    greatest = w;
                }
            }
            return greatest < 0 ? 0 : 2 * greatest;
        }

        int[] unders(boolean lies) {
            int top = lies ? 2 * b : s;
            int[] under = new int[top + 1];
            for (int y = 0; y <= top; y++) {
                int sum = 0;
                for (int i = 0; i < s; i++) {
                    for (int j = 0; j < 2 * b; j++) {
                        sum += (lies ? j < y : i < y) ? cells(i, j) : 0;
                    }
                }
                under[y] = sum;
            }
            return under;
        }
    }

    /** Never changed: what is done makes a new one. */
    record Cask(Shape shape, boolean lies, int wine, int spirit, int[] lying, int[] standing) {
        static Cask of(int s, int h, int b) {
            Shape shape = new Shape(s, h, b);
            return new Cask(shape, true, 0, 0, shape.unders(true), shape.unders(false));
        }

        Cask with(boolean newLies, int newWine, int newSpirit) {
            return new Cask(shape, newLies, newWine, newSpirit, lying, standing);
        }

        int[] unders() {
            return lies ? lying : standing;
        }

        int hold() {
            return lying[lying.length - 1];
        }

        float strength() {
            return (float) spirit / (float) wine;
        }
    }

    static int dipIn(int[] under, int amount) {
        for (int y = 0; y < under.length; y++) {
            if (under[y] >= amount) {
                return y;
            }
        }
        return -1;
    }

    private final StringBuilder text = new StringBuilder();
    private List<Cask> casks = List.of();
    private final ArrayList<List<Cask>> past = new ArrayList<>();
    private final ArrayList<List<Cask>> images = new ArrayList<>(java.util.Arrays.asList(null, null));
    private final ArrayList<int[]> seen = new ArrayList<>();

    private void become(List<Cask> now) {
        past.add(casks);
        if (past.size() > 8) {
            past.remove(0);
        }
        casks = now;
    }

    private List<Cask> with(int cask, Cask now) {
        ArrayList<Cask> list = new ArrayList<>(casks);
        list.set(cask, now);
        return List.copyOf(list);
    }

    private boolean has(int cask) {
        return cask >= 0 && cask < casks.size();
    }

    int type(int letter) {
        if (letter < 0 || letter > 255) {
            return BAD;
        }
        if (text.length() == 60) {
            return FULL;
        }
        text.append((char) letter);
        return text.length();
    }

    int clear() {
        int had = text.length();
        text.setLength(0);
        return had;
    }

    int tells() {
        ArrayList<String> tokens = new ArrayList<>();
        ArrayList<Integer> places = new ArrayList<>();
        Matcher matcher = TOKEN.matcher(text);
        while (matcher.find()) {
            tokens.add(matcher.group());
            places.add(matcher.start());
        }
        places.add(text.length());
        ArrayList<Cask> told = new ArrayList<>();
        int items = 0;
        // where a token stands in its item: 0 the word, 1 .. 3 a cask's numbers, 4 the number of one that stands, 5 the end
        int at = 0;
        int s = 0, h = 0, b = 0, c = -1;
        boolean isCask = false;
        for (int t = 0; t < tokens.size(); t++) {
            String token = tokens.get(t);
            int number = token.matches("0|[1-9][0-9]?") ? Integer.parseInt(token) : -1;
            boolean well = false;
            if (at == 0) {
                isCask = token.equals("cask");
                well = (isCask && told.size() < 4) || token.equals("stands");
                at = isCask ? 1 : 4;
            } else if (at == 1) {
                s = number;
                well = 1 <= s && s <= 12;
                at = 2;
            } else if (at == 2) {
                h = number;
                well = 1 <= h && h <= 20;
                at = 3;
            } else if (at == 3) {
                b = number;
                well = h <= b && b <= 20;
                at = 5;
            } else if (at == 4) {
                c = number;
                well = 0 <= c && c < told.size();
                at = 5;
            } else {
                well = token.equals(";");
                at = 0;
                if (well && isCask) {
                    told.add(Cask.of(s, h, b));
                } else if (well) {
                    told.set(c, told.get(c).with(false, 0, 0));
                }
                items++;
            }
            if (!well) {
                return -10 - places.get(t);
            }
        }
        if (at != 0) {
            return -10 - text.length();
        }
        become(List.copyOf(told));
        text.setLength(0);
        return items;
    }

    int fills(int cask, int n, int m) {
        if (!has(cask) || n < 1 || m < 0 || m > n) {
            return BAD;
        }
        Cask it = casks.get(cask);
        if ((long) it.wine + n > it.hold()) {
            return FULL;
        }
        become(with(cask, it.with(it.lies, it.wine + n, it.spirit + m)));
        return it.wine + n;
    }

    int draws(int cask, int n) {
        if (!has(cask) || n < 1) {
            return BAD;
        }
        Cask it = casks.get(cask);
        if (it.wine < n) {
            return STATE;
        }
        int goes = (int) ((long) it.spirit * n / it.wine);
        become(with(cask, it.with(it.lies, it.wine - n, it.spirit - goes)));
        return it.wine - n;
    }

    int pours(int from, int to, int n) {
        if (!has(from) || !has(to) || from == to || n < 1) {
            return BAD;
        }
        Cask a = casks.get(from);
        Cask b = casks.get(to);
        if (a.wine < n) {
            return STATE;
        }
        if ((long) b.wine + n > b.hold()) {
            return FULL;
        }
        int goes = (int) ((long) a.spirit * n / a.wine);
        ArrayList<Cask> list = new ArrayList<>(casks);
        list.set(from, a.with(a.lies, a.wine - n, a.spirit - goes));
        list.set(to, b.with(b.lies, b.wine + n, b.spirit + goes));
        become(List.copyOf(list));
        return b.wine + n;
    }

    int turnsOver(int cask) {
        if (!has(cask)) {
            return BAD;
        }
        Cask it = casks.get(cask);
        become(with(cask, it.with(!it.lies, it.wine, it.spirit)));
        return it.lies ? 0 : 1;
    }

    int undo() {
        if (past.isEmpty()) {
            return STATE;
        }
        casks = past.remove(past.size() - 1);
        return past.size();
    }

    int cask(int cask, int what) {
        if (!has(cask) || what < 0 || what > 8) {
            return BAD;
        }
        Cask it = casks.get(cask);
        return switch (what) {
            case 0 -> it.shape.s;
            case 1 -> it.shape.h;
            case 2 -> it.shape.b;
            case 3 -> it.lies ? 1 : 0;
            case 4 -> it.hold();
            case 5 -> it.wine;
            case 6 -> it.spirit;
            case 7 -> dipIn(it.unders(), it.wine);
            default -> it.wine == 0 ? NONE : (int) (1000f * it.strength());
        };
    }

    int slice(int cask, int i, int j) {
        if (!has(cask) || i < 0 || i >= casks.get(cask).shape.s || j < -1 || j >= 2 * casks.get(cask).shape.b) {
            return BAD;
        }
        return j == -1 ? casks.get(cask).shape.radius(i) : casks.get(cask).shape.cells(i, j);
    }

    int under(int cask, int y) {
        return !has(cask) || y < 0 || y >= casks.get(cask).unders().length ? BAD : casks.get(cask).unders()[y];
    }

    int dip(int cask, int n) {
        return !has(cask) || n < 0 || n > casks.get(cask).hold() ? BAD : dipIn(casks.get(cask).unders(), n);
    }

    int stick(int cask, int n, int k) {
        if (!has(cask) || n < 2 || n > 9 || k < 1 || k > n) {
            return BAD;
        }
        Cask it = casks.get(cask);
        int y = 0;
        while (it.unders()[y] * n < it.hold() * k) {
            y++;
        }
        return y;
    }

    int known(int cask, int y, int what) {
        if (!has(cask) || y < 0 || y >= casks.get(cask).unders().length || what < 0 || what > 1) {
            return BAD;
        }
        Cask it = casks.get(cask);
        int found = NONE;
        for (int n = 0; n <= it.hold(); n++) {
            if (dipIn(it.unders(), n) == y && (found == NONE || what == 1)) {
                found = n;
            }
        }
        return found;
    }

    int shares(int cask, int m, int k) {
        if (!has(cask) || (m != 2 && m != 3) || k < -1 || k > 3 || (m == 2 && k == 1)) {
            return BAD;
        }
        Cask it = casks.get(cask);
        if (it.wine == 0) {
            return STATE;
        }
        int[] under = it.unders();
        int[] best = null;
        for (int y = 0; y <= dipIn(under, it.wine); y++) {
            for (int z = 0; z <= (m == 2 ? 0 : y); z++) {
                int first = Math.max(0, it.wine - under[y]);
                int last = Math.min(it.wine, under[m == 2 ? y : z]);
                int between = it.wine - first - last;
                int greatest = Math.max(first, Math.max(last, m == 2 ? 0 : between));
                if (best == null || greatest < best[0]) {
                    best = new int[] {greatest, y, z, first, last};
                }
            }
        }
        return best[k + 1];
    }

    int all(int what) {
        if (what != 0 && what != 1) {
            return BAD;
        }
        int best = NONE;
        int many = 0;
        float sum = 0f;
        for (int c = 0; c < casks.size(); c++) {
            if (casks.get(c).wine > 0) {
                many++;
                sum = sum + casks.get(c).strength();
                if (best == NONE || casks.get(c).strength() > casks.get(best).strength()) {
                    best = c;
                }
            }
        }
        return what == 0 || many == 0 ? best : (int) (1000f * (sum / (float) many));
    }

    int sees(int n, int y) {
        if (n < 0 || n > 99999 || y < 0 || y > 40) {
            return BAD;
        }
        if (seen.size() == 6) {
            return FULL;
        }
        seen.add(new int[] {n, y});
        return seen.size();
    }

    int forget() {
        int had = seen.size();
        seen.clear();
        return had;
    }

    private ArrayList<Cask> possible() {
        ArrayList<Cask> can = new ArrayList<>();
        for (Cask it : casks) {
            boolean so = true;
            for (int[] one : seen) {
                so &= one[0] <= it.hold() && dipIn(it.lying, one[0]) == one[1];
            }
            if (so) {
                can.add(it);
            }
        }
        return can;
    }

    int which() {
        int bits = 0;
        for (int c = 0; c < casks.size(); c++) {
            for (Cask one : possible()) {
                bits |= one == casks.get(c) ? 1 << c : 0;
            }
        }
        return bits;
    }

    int ask() {
        ArrayList<Cask> can = possible();
        if (can.size() <= 1) {
            return NONE;
        }
        int best = -1;
        int least = 99;
        for (int n = 0; n <= 999; n++) {
            int greatest = 0;
            for (Cask a : can) {
                int alike = 0;
                for (Cask b : can) {
                    boolean aBelow = a.hold() < n;
                    boolean bBelow = b.hold() < n;
                    alike += (aBelow && bBelow)
                        || (!aBelow && !bBelow && dipIn(a.lying, n) == dipIn(b.lying, n)) ? 1 : 0;
                }
                greatest = Math.max(greatest, alike);
            }
            if (greatest < least) {
                least = greatest;
                best = n;
            }
        }
        return best;
    }

    int keep(int image) {
        if (image != 0 && image != 1) {
            return BAD;
        }
        images.set(image, casks);
        return casks.size();
    }

    int back(int image) {
        if (image != 0 && image != 1) {
            return BAD;
        }
        if (images.get(image) == null) {
            return STATE;
        }
        casks = images.get(image);
        past.clear();
        return casks.size();
    }

    int count(int what) {
        return switch (what) {
            case 0 -> casks.size();
            case 1 -> casks.stream().mapToInt(Cask::wine).sum();
            case 2 -> casks.stream().mapToInt(Cask::spirit).sum();
            case 3 -> seen.size();
            case 4 -> text.length();
            case 5 -> past.size();
            default -> BAD;
        };
    }
}
