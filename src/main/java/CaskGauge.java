/**
 * Casks and what is in them, as ../shared/DOC.md promises; README.md says how it is used.
 * Every row is made in a constructor and used again: no call makes an object.
 */
public final class CaskGauge {
    public static final int BAD = -1, STATE = -2, FULL = -3, NONE = -9;

    private static final int MOST_CASKS = 4;
    private static final int MOST_SLICES = 12;
    private static final int MOST_RADIUS = 20;
    private static final int MOST_DIP = 2 * MOST_RADIUS;
    /** Stands for a dip where an amount is more than a cask holds; no dip is that high. */
    private static final int NO_DIP = MOST_DIP + 1;
    private static final int MOST_LETTERS = 60;
    private static final int MOST_LETTER = 255;
    private static final int MOST_UNDONE = 8;
    private static final int MOST_SEEN = 6;
    private static final int MOST_SEEN_AMOUNT = 99999;
    private static final int MOST_ASKED_AMOUNT = 999;
    private static final int IMAGES = 2;
    private static final int FAULT_FROM = -10;

    private final Text text;
    private final Reader reader;
    private final Cellar cellar;
    private final Past past;
    private final Cellar[] images;
    private final boolean[] kept;
    private final Sightings seen;
    private final Levels[] lying;
    private final Levels[] standing;
    private final Sharing sharing;
    private final int[] askedDips;

    public CaskGauge() {
        text = new Text();
        reader = new Reader(text);
        cellar = new Cellar();
        past = new Past();
        images = new Cellar[IMAGES];
        kept = new boolean[IMAGES];
        for (int i = 0; i < IMAGES; i++) {
            images[i] = new Cellar();
        }
        seen = new Sightings();
        lying = new Levels[MOST_CASKS];
        standing = new Levels[MOST_CASKS];
        for (int c = 0; c < MOST_CASKS; c++) {
            lying[c] = new Levels(true);
            standing[c] = new Levels(false);
        }
        sharing = new Sharing();
        askedDips = new int[MOST_CASKS];
    }

    // ---- what is told

    public int type(int letter) {
        if (letter < 0 || letter > MOST_LETTER) {
            return BAD;
        }
        return text.add(letter) ? text.length : FULL;
    }

    public int clear() {
        int had = text.length;
        text.length = 0;
        return had;
    }

    public int tells() {
        if (!reader.readAll()) {
            return FAULT_FROM - reader.faultPlace();
        }
        past.remember(cellar);
        cellar.copyFrom(reader.told);
        text.length = 0;
        return reader.items;
    }

    // ---- what is done

    public int fills(int cask, int n, int m) {
        if (!cellar.has(cask) || n < 1 || m < 0 || m > n) {
            return BAD;
        }
        if (n > roomIn(cask)) {
            return FULL;
        }
        past.remember(cellar);
        cellar.casks[cask].takeIn(n, m);
        return cellar.casks[cask].wine;
    }

    public int draws(int cask, int n) {
        if (!cellar.has(cask) || n < 1) {
            return BAD;
        }
        if (n > cellar.casks[cask].wine) {
            return STATE;
        }
        past.remember(cellar);
        cellar.casks[cask].giveOut(n);
        return cellar.casks[cask].wine;
    }

    public int pours(int from, int to, int n) {
        if (!cellar.has(from) || !cellar.has(to) || from == to || n < 1) {
            return BAD;
        }
        if (n > cellar.casks[from].wine) {
            return STATE;
        }
        if (n > roomIn(to)) {
            return FULL;
        }
        past.remember(cellar);
        int spirit = cellar.casks[from].giveOut(n);
        cellar.casks[to].takeIn(n, spirit);
        return cellar.casks[to].wine;
    }

    public int turnsOver(int cask) {
        if (!cellar.has(cask)) {
            return BAD;
        }
        past.remember(cellar);
        cellar.casks[cask].lies = !cellar.casks[cask].lies;
        return cellar.casks[cask].lies ? 1 : 0;
    }

    public int undo() {
        return past.recallInto(cellar) ? past.size : STATE;
    }

    // ---- asked

    public int cask(int cask, int what) {
        if (!cellar.has(cask)) {
            return BAD;
        }
        Cask it = cellar.casks[cask];
        switch (what) {
            case 0:
                return it.slices;
            case 1:
                return it.head;
            case 2:
                return it.belly;
            case 3:
                return it.lies ? 1 : 0;
            case 4:
                return levelsOf(cask).hold();
            case 5:
                return it.wine;
            case 6:
                return it.spirit;
            case 7:
                return levelsOf(cask).leastDip(it.wine);
            case 8:
                return it.wine > 0 ? inThousandths(it.strength()) : NONE;
            default:
                return BAD;
        }
    }

    public int slice(int cask, int i, int j) {
        if (!cellar.has(cask)) {
            return BAD;
        }
        Cask it = cellar.casks[cask];
        if (i < 0 || i >= it.slices || j < -1 || j >= 2 * it.belly) {
            return BAD;
        }
        return j == -1 ? it.radiusOf(i) : it.cellsOf(it.radiusOf(i), j);
    }

    public int under(int cask, int y) {
        if (!cellar.has(cask)) {
            return BAD;
        }
        Levels levels = levelsOf(cask);
        return levels.reach(y) ? levels.amountAt(y) : BAD;
    }

    public int dip(int cask, int n) {
        if (!cellar.has(cask) || n < 0) {
            return BAD;
        }
        int y = levelsOf(cask).leastDip(n);
        return y == NO_DIP ? BAD : y;
    }

    public int stick(int cask, int n, int k) {
        if (!cellar.has(cask) || n < 2 || n > 9 || k < 1 || k > n) {
            return BAD;
        }
        return levelsOf(cask).markAt(n, k);
    }

    public int known(int cask, int y, int what) {
        if (!cellar.has(cask) || what < 0 || what > 1) {
            return BAD;
        }
        Levels levels = levelsOf(cask);
        if (!levels.reach(y)) {
            return BAD;
        }
        int greatest = levels.amountAt(y);
        int least = y == 0 ? 0 : levels.amountAt(y - 1) + 1;
        if (least > greatest) {
            return NONE;
        }
        return what == 0 ? least : greatest;
    }

    public int shares(int cask, int m, int k) {
        if (!cellar.has(cask) || m < 2 || m > 3 || k < -1 || k > 3 || (k == 1 && m == 2)) {
            return BAD;
        }
        int wine = cellar.casks[cask].wine;
        if (wine == 0) {
            return STATE;
        }
        sharing.findFairest(levelsOf(cask), wine, m);
        switch (k) {
            case 0:
                return sharing.y;
            case 1:
                return sharing.z;
            case 2:
                return sharing.first;
            case 3:
                return sharing.last;
            default:
                return sharing.greatest;
        }
    }

    public int all(int what) {
        if (what == 0) {
            return cellar.strongest();
        }
        if (what == 1) {
            return cellar.strongest() == NONE ? NONE : inThousandths(cellar.meanStrength());
        }
        return BAD;
    }

    // ---- which cask

    public int sees(int n, int y) {
        if (n < 0 || n > MOST_SEEN_AMOUNT || y < 0 || y > MOST_DIP) {
            return BAD;
        }
        return seen.add(n, y) ? seen.size : FULL;
    }

    public int forget() {
        int had = seen.size;
        seen.size = 0;
        return had;
    }

    public int which() {
        int can = 0;
        for (int c = 0; c < cellar.size; c++) {
            if (seen.fits(lyingLevelsOf(c))) {
                can |= 1 << c;
            }
        }
        return can;
    }

    public int ask() {
        int can = which();
        if (Integer.bitCount(can) <= 1) {
            return NONE;
        }
        startAsking();
        int best = 0;
        int fewest = mostAlike(can);
        for (int n = 1; n <= MOST_ASKED_AMOUNT && fewest > 1; n++) {
            // which casks are alike changes only where a dip does
            if (raiseAskedDips(n)) {
                int most = mostAlike(can);
                if (most < fewest) {
                    fewest = most;
                    best = n;
                }
            }
        }
        return best;
    }

    // ---- images

    public int keep(int image) {
        if (image < 0 || image >= IMAGES) {
            return BAD;
        }
        images[image].copyFrom(cellar);
        kept[image] = true;
        return cellar.size;
    }

    public int back(int image) {
        if (image < 0 || image >= IMAGES) {
            return BAD;
        }
        if (!kept[image]) {
            return STATE;
        }
        cellar.copyFrom(images[image]);
        past.size = 0;
        return cellar.size;
    }

    public int count(int what) {
        switch (what) {
            case 0:
                return cellar.size;
            case 1:
                return cellar.allWine();
            case 2:
                return cellar.allSpirit();
            case 3:
                return seen.size;
            case 4:
                return text.length;
            case 5:
                return past.size;
            default:
                return BAD;
        }
    }

    // ---- what the calls share; a cask's number is tested ahead of these

    private Levels levelsOf(int cask) {
        if (cellar.casks[cask].lies) {
            return lyingLevelsOf(cask);
        }
        standing[cask].measure(cellar.casks[cask]);
        return standing[cask];
    }

    private Levels lyingLevelsOf(int cask) {
        lying[cask].measure(cellar.casks[cask]);
        return lying[cask];
    }

    private int roomIn(int cask) {
        return levelsOf(cask).hold() - cellar.casks[cask].wine;
    }

    private static int inThousandths(float strength) {
        return (int) (1000f * strength);
    }

    private void startAsking() {
        for (int c = 0; c < MOST_CASKS; c++) {
            askedDips[c] = 0;
        }
    }

    /** Carries the dips on from n less 1 to n (which() has measured the levels): whether one changed. */
    private boolean raiseAskedDips(int n) {
        boolean changed = false;
        for (int c = 0; c < cellar.size; c++) {
            int dip = lying[c].leastDipFrom(askedDips[c], n);
            changed = changed || dip != askedDips[c];
            askedDips[c] = dip;
        }
        return changed;
    }

    /** Casks that hold less than was asked all have NO_DIP, so they are alike by it. */
    private int mostAlike(int can) {
        int most = 0;
        for (int c = 0; c < MOST_CASKS; c++) {
            int alike = 0;
            for (int d = 0; d < MOST_CASKS; d++) {
                if ((can >> c & can >> d & 1) == 1 && askedDips[c] == askedDips[d]) {
                    alike++;
                }
            }
            most = Math.max(most, alike);
        }
        return most;
    }

    /** One cask: its shape, how it is laid, what is in it. */
    private static final class Cask {
        int slices;
        int head;
        int belly;
        boolean lies;
        int wine;
        int spirit;

        void becomeNew(int newSlices, int newHead, int newBelly) {
            slices = newSlices;
            head = newHead;
            belly = newBelly;
            lies = true;
            wine = 0;
            spirit = 0;
        }

        void copyFrom(Cask other) {
            slices = other.slices;
            head = other.head;
            belly = other.belly;
            lies = other.lies;
            wine = other.wine;
            spirit = other.spirit;
        }

        int radiusOf(int i) {
            int whole = slices * slices;
            if (whole == 0) {
                return belly;
            }
            int off = 2 * i + 1 - slices;
            return belly - (belly - head) * off * off / whole;
        }

        int cellsOf(int radius, int j) {
            int off = 2 * j + 1 - 2 * belly;
            int room = 4 * radius * radius - off * off;
            int w = 0;
            while (w < radius && 4 * (w + 1) * (w + 1) <= room) {
                w++;
            }
            return 2 * w;
        }

        void takeIn(int n, int m) {
            wine += n;
            spirit += m;
        }

        /** Answers the spirit that goes with the wine. */
        int giveOut(int n) {
            if (wine == 0) {
                return 0;
            }
            int goes = spirit * n / wine;
            wine -= n;
            spirit -= goes;
            return goes;
        }

        float strength() {
            return wine == 0 ? 0f : (float) spirit / (float) wine;
        }
    }

    /** The casks told, in their order. */
    private static final class Cellar {
        final Cask[] casks;
        int size;

        Cellar() {
            casks = new Cask[MOST_CASKS];
            for (int c = 0; c < MOST_CASKS; c++) {
                casks[c] = new Cask();
            }
        }

        boolean has(int cask) {
            return cask >= 0 && cask < size;
        }

        void empty() {
            size = 0;
        }

        boolean add(int slices, int head, int belly) {
            if (size >= MOST_CASKS) {
                return false;
            }
            casks[size].becomeNew(slices, head, belly);
            size++;
            return true;
        }

        void copyFrom(Cellar other) {
            size = other.size;
            for (int c = 0; c < size; c++) {
                casks[c].copyFrom(other.casks[c]);
            }
        }

        int allWine() {
            int sum = 0;
            for (int c = 0; c < size; c++) {
                sum += casks[c].wine;
            }
            return sum;
        }

        int allSpirit() {
            int sum = 0;
            for (int c = 0; c < size; c++) {
                sum += casks[c].spirit;
            }
            return sum;
        }

        int strongest() {
            int best = NONE;
            float most = 0f;
            for (int c = 0; c < size; c++) {
                if (casks[c].wine > 0 && (best == NONE || casks[c].strength() > most)) {
                    best = c;
                    most = casks[c].strength();
                }
            }
            return best;
        }

        float meanStrength() {
            float sum = 0f;
            int many = 0;
            for (int c = 0; c < size; c++) {
                if (casks[c].wine > 0) {
                    sum += casks[c].strength();
                    many++;
                }
            }
            return many == 0 ? 0f : sum / (float) many;
        }
    }

    /** What is under each dip of a cask, lying or standing; kept until a cask of another shape is measured. */
    private static final class Levels {
        final boolean lying;
        final int[] amounts;
        int slices;
        int head;
        int belly;
        int top;

        Levels(boolean lying) {
            this.lying = lying;
            amounts = new int[MOST_DIP + 1];
        }

        void measure(Cask cask) {
            if (slices == cask.slices && head == cask.head && belly == cask.belly) {
                return;
            }
            slices = cask.slices;
            head = cask.head;
            belly = cask.belly;
            top = Math.min(lying ? 2 * belly : slices, MOST_DIP);
            for (int y = 0; y <= top; y++) {
                amounts[y] = 0;
            }
            for (int i = 0; i < slices; i++) {
                int radius = cask.radiusOf(i);
                for (int j = 0; j < 2 * belly; j++) {
                    addAhead((lying ? j : i) + 1, cask.cellsOf(radius, j));
                }
            }
            for (int y = 0; y < top; y++) {
                amounts[y + 1] += amounts[y];
            }
        }

        private void addAhead(int y, int cells) {
            if (reach(y)) {
                amounts[y] += cells;
            }
        }

        boolean reach(int y) {
            return y >= 0 && y <= top;
        }

        int amountAt(int y) {
            return reach(y) ? amounts[y] : 0;
        }

        int hold() {
            return amountAt(top);
        }

        int leastDip(int amount) {
            return leastDipFrom(0, amount);
        }

        /** NO_DIP, if the cask does not hold so much. */
        int leastDipFrom(int from, int amount) {
            for (int y = Math.max(from, 0); y <= top; y++) {
                if (amounts[y] >= amount) {
                    return y;
                }
            }
            return NO_DIP;
        }

        int markAt(int parts, int k) {
            int wanted = hold() * k;
            for (int y = 0; y < top; y++) {
                if (amounts[y] * parts >= wanted) {
                    return y;
                }
            }
            return top;
        }
    }

    /** The cellars that can come back, the latest first; the oldest one's place is taken when all are in use. */
    private static final class Past {
        final Cellar[] cellars;
        int latest;
        int size;

        Past() {
            cellars = new Cellar[MOST_UNDONE];
            for (int i = 0; i < MOST_UNDONE; i++) {
                cellars[i] = new Cellar();
            }
        }

        void remember(Cellar cellar) {
            latest = (latest + 1) % MOST_UNDONE;
            cellars[latest].copyFrom(cellar);
            size = Math.min(size + 1, MOST_UNDONE);
        }

        boolean recallInto(Cellar cellar) {
            if (size == 0) {
                return false;
            }
            cellar.copyFrom(cellars[latest]);
            latest = (latest + MOST_UNDONE - 1) % MOST_UNDONE;
            size--;
            return true;
        }
    }

    /** The dips that were seen in an unknown cask. */
    private static final class Sightings {
        final int[] amounts;
        final int[] dips;
        int size;

        Sightings() {
            amounts = new int[MOST_SEEN];
            dips = new int[MOST_SEEN];
        }

        boolean add(int amount, int dip) {
            if (size >= MOST_SEEN) {
                return false;
            }
            amounts[size] = amount;
            dips[size] = dip;
            size++;
            return true;
        }

        /** An amount beyond what the cask holds has NO_DIP, which is never seen. */
        boolean fits(Levels levels) {
            for (int i = 0; i < size && i < MOST_SEEN; i++) {
                if (levels.leastDip(amounts[i]) != dips[i]) {
                    return false;
                }
            }
            return true;
        }
    }

    /** The fairest way to share a cask's wine by cuts at dips. */
    private static final class Sharing {
        int greatest;
        int y;
        int z;
        int first;
        int last;

        /** Two share as three do whose cuts are at one place: nothing is left between them. */
        void findFairest(Levels levels, int wine, int among) {
            greatest = wine + 1;
            int highest = Math.min(levels.leastDip(wine), MOST_DIP);
            for (int upper = 0; upper <= highest; upper++) {
                for (int lower = among == 2 ? upper : 0; lower <= upper; lower++) {
                    weigh(levels, wine, upper, lower);
                }
            }
        }

        /** Ways come by rising cuts, so that of equally fair ones the first one stays. */
        private void weigh(Levels levels, int wine, int upper, int lower) {
            int underUpper = Math.min(levels.amountAt(upper), wine);
            int underLower = Math.min(levels.amountAt(lower), wine);
            int between = underUpper - underLower;
            int most = Math.max(Math.max(wine - underUpper, underLower), between);
            if (most < greatest) {
                greatest = most;
                y = upper;
                z = lower;
                first = wine - underUpper;
                last = underLower;
            }
        }
    }

    /** The text's letters, and the tokens that they make; END stands behind these, at the text's length. */
    private static final class Text {
        static final int END = 0;
        static final int CASK_WORD = 1;
        static final int STANDS_WORD = 2;
        static final int NUMBER = 3;
        static final int ITEM_END = 4;
        static final int WRONG = 5;

        final int[] letters;
        int length;
        final int[] kinds;
        final int[] places;
        final int[] values;

        Text() {
            letters = new int[MOST_LETTERS];
            kinds = new int[MOST_LETTERS + 1];
            places = new int[MOST_LETTERS + 1];
            values = new int[MOST_LETTERS + 1];
        }

        boolean add(int letter) {
            if (length >= MOST_LETTERS) {
                return false;
            }
            letters[length] = letter;
            length++;
            return true;
        }

        void split() {
            int tokens = 0;
            for (int at = 0; at < length; at++) {
                if (letters[at] != ' ' && !goesOn(at)) {
                    places[tokens] = at;
                    putKind(tokens, at);
                    tokens++;
                }
            }
            kinds[tokens] = END;
            places[tokens] = length;
        }

        /** Whether a letter is of one row with the letter ahead of it. */
        private boolean goesOn(int at) {
            if (at < 1 || at >= length) {
                return false;
            }
            return (isSmallLetter(letters[at]) && isSmallLetter(letters[at - 1]))
                || (isFigure(letters[at]) && isFigure(letters[at - 1]));
        }

        private void putKind(int token, int from) {
            int end = from + 1;
            while (end < length && goesOn(end)) {
                end++;
            }
            values[token] = 0;
            if (isSmallLetter(letters[from])) {
                kinds[token] = kindOfWord(from, end);
            } else if (isFigure(letters[from])) {
                kinds[token] = kindOfNumber(from, end);
                values[token] = valueOf(from, end);
            } else {
                kinds[token] = letters[from] == ';' ? ITEM_END : WRONG;
            }
        }

        private int kindOfWord(int from, int end) {
            if (isWord("cask", from, end)) {
                return CASK_WORD;
            }
            return isWord("stands", from, end) ? STANDS_WORD : WRONG;
        }

        private boolean isWord(String word, int from, int end) {
            if (end - from != word.length()) {
                return false;
            }
            for (int at = from; at < end; at++) {
                if (letters[at] != word.charAt(at - from)) {
                    return false;
                }
            }
            return true;
        }

        private int kindOfNumber(int from, int end) {
            boolean zeroAhead = letters[from] == '0' && end - from > 1;
            return zeroAhead || end - from > 2 ? WRONG : NUMBER;
        }

        /** Two figures are enough: a row of more is no number. */
        private int valueOf(int from, int end) {
            int value = 0;
            for (int at = from; at < end && at < from + 2; at++) {
                value = 10 * value + letters[at] - '0';
            }
            return value;
        }

        private static boolean isSmallLetter(int letter) {
            return letter >= 'a' && letter <= 'z';
        }

        private static boolean isFigure(int letter) {
            return letter >= '0' && letter <= '9';
        }
    }

    /** Reads casks out of a text, into a cellar of its own, so that a fault changes nothing. */
    private static final class Reader {
        final Cellar told;
        int items;
        private final Text text;
        private int token;

        Reader(Text text) {
            this.text = text;
            told = new Cellar();
        }

        /** If it answers false, faultPlace() tells where the fault is. */
        boolean readAll() {
            text.split();
            told.empty();
            items = 0;
            token = 0;
            while (text.kinds[token] != Text.END && items < MOST_LETTERS) {
                if (!readItem()) {
                    return false;
                }
                items++;
            }
            return true;
        }

        int faultPlace() {
            return text.places[token];
        }

        private boolean readItem() {
            int word = text.kinds[token];
            if (word == Text.CASK_WORD && told.size < MOST_CASKS) {
                return readCask();
            }
            return word == Text.STANDS_WORD && readStands();
        }

        private boolean readCask() {
            if (!readNumber(1, MOST_SLICES)) {
                return false;
            }
            int slices = text.values[token];
            if (!readNumber(1, MOST_RADIUS)) {
                return false;
            }
            int head = text.values[token];
            if (!readNumber(head, MOST_RADIUS)) {
                return false;
            }
            int belly = text.values[token];
            return readItemEnd() && told.add(slices, head, belly);
        }

        private boolean readStands() {
            if (!readNumber(0, told.size - 1)) {
                return false;
            }
            int cask = text.values[token];
            if (!told.has(cask)) {
                return false;
            }
            told.casks[cask].lies = false;
            return readItemEnd();
        }

        private boolean readNumber(int least, int greatest) {
            step();
            int value = text.values[token];
            return text.kinds[token] == Text.NUMBER && value >= least && value <= greatest;
        }

        private boolean readItemEnd() {
            step();
            if (text.kinds[token] != Text.ITEM_END) {
                return false;
            }
            step();
            return true;
        }

        private void step() {
            if (text.kinds[token] != Text.END && token < MOST_LETTERS) {
                token++;
            }
        }
    }
}
