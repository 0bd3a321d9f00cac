import java.util.Arrays;

/**
 * Ghost signs: faded words that were painted on a wall one over another.
 *
 * <p>The numbered promises of DOC.md say what each call answers. Every row that a call needs is
 * made with the object and used again, so no call makes an object.
 */
public final class GhostSigns {
    public static final int BAD = -1, FULL = -2, FINDING = -3, STATE = -4, SPENT = -6, NONE = -9;

    private static final int NOTHING = 1, BEYOND = 2, UNLIKE = 3, NOUGHT = 4, SIZE = 5;
    private static final int PLAIN = 0, FIRM = 1, HEIR = 2, SLOGAN = 3;
    private static final int LINES = 4, SLOTS = 10, CELLS = 15, ALL_CELLS = 32767;
    private static final int BARE = 0, COLOURS = 3, UNKNOWN = 4;
    private static final int FIRST_YEAR = 1700, LAST_YEAR = 2100;
    private static final int MOST_TRIES = 20000;
    private static final int LAST_COUNT = 5;

    private final Sheets sheets;
    private final Words words;
    private final Line[] lines;
    private final Street street;
    private final Lights lights;
    private final Hands hands;
    private final Walls walls;
    private final Places placesOfA;
    private final Places placesOfB;
    private final Pair pair;
    private final int[] split;
    private final int[] timesFound;
    private int latestFinding;
    private int latestAsked;

    public GhostSigns() {
        sheets = new Sheets();
        words = new Words();
        lines = new Line[LINES];
        for (int line = 0; line < LINES; line++) {
            lines[line] = new Line();
        }
        street = new Street();
        lights = new Lights();
        hands = new Hands();
        walls = new Walls();
        placesOfA = new Places();
        placesOfB = new Places();
        pair = new Pair();
        split = new int[SLOTS];
        timesFound = new int[SIZE + 1];
    }

    // ---- 1 letters, sheets, words

    public int letter(int c, int strokes) {
        if (!Words.isLetter(c) || !isCells(strokes)) {
            return BAD;
        }
        return words.changeStrokes(c, strokes);
    }

    public int sheet(int s, int n) {
        if (!Sheets.isNumber(s) || n > Sheets.LONGEST) {
            return BAD;
        }
        if (n < 0) {
            return refuse(SIZE);
        }
        sheets.bring(s, n);
        return n;
    }

    public int lay(int s, int i, int v) {
        if (!Sheets.isNumber(s)) {
            return BAD;
        }
        if (!sheets.isThere(s)) {
            return refuse(NOTHING);
        }
        if (!sheets.hasRun(s, i, 1)) {
            return refuse(BEYOND);
        }
        return sheets.changeByte(s, i, v) + 1000;
    }

    public int tear(int s) {
        if (!Sheets.isNumber(s)) {
            return BAD;
        }
        if (!sheets.isThere(s)) {
            return refuse(NOTHING);
        }
        sheets.remove(s);
        return 1;
    }

    public int copy(int s, int i, int to, int j, int n) {
        if (!Sheets.isNumber(s) || !Sheets.isNumber(to)) {
            return BAD;
        }
        if (n < 0) {
            return refuse(SIZE);
        }
        if (!sheets.isThere(s) || !sheets.isThere(to)) {
            return refuse(NOTHING);
        }
        if (!sheets.hasRun(s, i, n) || !sheets.hasRun(to, j, n)) {
            return refuse(BEYOND);
        }
        sheets.carry(s, i, to, j, n);
        return 1;
    }

    public int word(int s) {
        if (!Sheets.isNumber(s)) {
            return BAD;
        }
        if (words.isFull()) {
            return FULL;
        }
        if (!sheets.isThere(s)) {
            return refuse(NOTHING);
        }
        if (!makesWord(s)) {
            return refuse(SIZE);
        }
        return words.add(sheets.rows[s], sheets.sizes[s], PLAIN, NONE);
    }

    public int firm(int s, int number, int from, int to, int of) {
        boolean heir = of != NONE;
        if (!Sheets.isNumber(s) || !Street.isNumber(number) || (heir && !words.isNumber(of))) {
            return BAD;
        }
        if (!Street.isYear(from) || !Street.isYear(to) || from > to) {
            return BAD;
        }
        if (words.isFull()) {
            return FULL;
        }
        if (!sheets.isThere(s) || (heir && words.struck[of])) {
            return refuse(NOTHING);
        }
        if (heir && !words.isOf(of, FIRM)) {
            return refuse(UNLIKE);
        }
        if (!makesWord(s)) {
            return refuse(SIZE);
        }
        int made = words.add(sheets.rows[s], sheets.sizes[s], heir ? HEIR : FIRM, of);
        words.settle(made, number, from, to);
        return made;
    }

    public int slogan(int s, int firm) {
        if (!Sheets.isNumber(s) || !words.isNumber(firm)) {
            return BAD;
        }
        if (words.isFull()) {
            return FULL;
        }
        if (!sheets.isThere(s) || words.struck[firm]) {
            return refuse(NOTHING);
        }
        if (!words.isOf(firm, FIRM)) {
            return refuse(UNLIKE);
        }
        if (!makesWord(s)) {
            return refuse(SIZE);
        }
        int made = words.add(sheets.rows[s], sheets.sizes[s], SLOGAN, firm);
        // A FIRM's years and NUMBER never change, so the SLOGAN may keep its own copy.
        words.settle(made, words.numbers[firm], words.froms[firm], words.tos[firm]);
        return made;
    }

    public int strike(int word) {
        if (!words.isNumber(word)) {
            return BAD;
        }
        if (words.struck[word]) {
            return refuse(NOTHING);
        }
        if (isLayer(word) || words.sizeOfHouse(word) > 0) {
            return STATE;
        }
        words.struck[word] = true;
        return 1;
    }

    public int told(int word, int what) {
        if (!words.isNumber(word) || what < 0 || what > Words.LAST_FACT) {
            return BAD;
        }
        if (words.struck[word]) {
            return refuse(NOTHING);
        }
        return words.factOf(word, what);
    }

    public int mark(int word, int kind) {
        if (!words.isNumber(word) || kind < FIRM || kind > SLOGAN) {
            return BAD;
        }
        if (words.struck[word]) {
            return refuse(NOTHING);
        }
        if (!words.isOf(word, kind)) {
            return refuse(UNLIKE);
        }
        if (kind == FIRM) {
            return words.sizeOfHouse(word);
        }
        return kind == HEIR ? words.founderOf(word) : words.firms[word];
    }

    public int mean() {
        int there = words.sizeThere();
        if (there == 0) {
            return refuse(NOUGHT);
        }
        return words.lettersThere() / there;
    }

    // ---- 2 the wall

    public int see(int line, int slot, int cells, int v) {
        if (!isLine(line) || !isCells(cells) || v < BARE || v > UNKNOWN) {
            return BAD;
        }
        if (!isSlot(slot)) {
            return refuse(BEYOND);
        }
        return lines[line].show(slot, cells, v);
    }

    public int seen(int line, int slot, int cell) {
        if (!isLine(line) || cell < 0 || cell >= CELLS) {
            return BAD;
        }
        if (!isSlot(slot)) {
            return refuse(BEYOND);
        }
        return lines[line].valueAt(slot, cell);
    }

    public int lack(int line, int word, int slot, int colour) {
        if (!isLine(line) || !words.isNumber(word) || !isColour(colour)) {
            return BAD;
        }
        if (words.struck[word]) {
            return refuse(NOTHING);
        }
        if (!words.isOnLine(word, slot)) {
            return refuse(BEYOND);
        }
        return lackAt(lines[line], word, slot, colour);
    }

    public int reading(int line, int colour) {
        if (!isLine(line) || !isColour(colour)) {
            return BAD;
        }
        gatherPlaces(lines[line], colour, placesOfA);
        int best = placesOfA.firstRival();
        if (best == NONE) {
            return NONE;
        }
        latestAsked = placesOfA.slots[best];
        return placesOfA.words[best];
    }

    public int rivals(int line, int colour) {
        if (!isLine(line) || !isColour(colour)) {
            return BAD;
        }
        gatherPlaces(lines[line], colour, placesOfA);
        return placesOfA.sizeOfRivals();
    }

    public int layer(int line, int word, int slot, int colour) {
        if (!isLine(line) || !words.isNumber(word) || !isColour(colour)) {
            return BAD;
        }
        Line at = lines[line];
        if (at.isFull()) {
            return FULL;
        }
        if (at.hasLayerIn(colour)) {
            return STATE;
        }
        if (words.struck[word]) {
            return refuse(NOTHING);
        }
        if (!words.isOnLine(word, slot)) {
            return refuse(BEYOND);
        }
        at.addLayer(word, slot, colour);
        return at.layers;
    }

    public int bare(int line) {
        if (!isLine(line)) {
            return BAD;
        }
        int had = lines[line].layers;
        lines[line].layers = 0;
        return had;
    }

    public int layerTold(int line, int i, int what) {
        if (!isLine(line) || what < 0 || what > Line.LAST_FACT) {
            return BAD;
        }
        if (i < 0 || i >= lines[line].layers) {
            return NONE;
        }
        return lines[line].factOf(i, what);
    }

    public int faded(int line) {
        if (!isLine(line)) {
            return BAD;
        }
        int sum = 0;
        for (int slot = 0; slot < SLOTS; slot++) {
            if (!fitsIn(lines[line], slot)) {
                return NONE;
            }
            sum += fadedIn(lines[line], slot);
        }
        return sum;
    }

    public int two(int line, int a, int b, int n) {
        if (!isLine(line) || !isColour(a) || !isColour(b) || a == b) {
            return BAD;
        }
        if (n < 1 || n > MOST_TRIES) {
            return BAD;
        }
        Line at = lines[line];
        gatherPlaces(at, a, placesOfA);
        gatherPlaces(at, b, placesOfB);
        if (pair.tries(placesOfA, placesOfB) > n) {
            return SPENT;
        }
        int third = 1 + 2 + 3 - a - b;
        if (at.shows(third) || !pair.seek(placesOfA, placesOfB)) {
            return NONE;
        }
        at.layers = 0;
        if (pair.aBeneath) {
            addPlace(at, placesOfA, pair.ofA, a);
            addPlace(at, placesOfB, pair.ofB, b);
        } else {
            addPlace(at, placesOfB, pair.ofB, b);
            addPlace(at, placesOfA, pair.ofA, a);
        }
        return pair.fewest;
    }

    // ---- 3 the street

    public int renumber(int year, int u, int v) {
        if (!Street.isYear(year) || u < 1 || u > 3 || v < -100 || v > 100) {
            return BAD;
        }
        if (year <= street.latestYear()) {
            return BAD;
        }
        if (street.isFull()) {
            return FULL;
        }
        street.add(year, u, v);
        return street.times;
    }

    public int number(int n, int year, int other) {
        if (!Street.isNumber(n) || !Street.isYear(year) || !Street.isYear(other)) {
            return BAD;
        }
        return street.became(n, year, other);
    }

    public int address(int n, int year) {
        if (!Street.isNumber(n) || !Street.isYear(year)) {
            return BAD;
        }
        street.wallNumber = n;
        street.wallYear = year;
        return 1;
    }

    public int span(int word, boolean last) {
        if (!words.isNumber(word)) {
            return BAD;
        }
        if (words.struck[word]) {
            return refuse(NOTHING);
        }
        if (!hasSpan(word)) {
            return NONE;
        }
        return last ? lastYear(word) : firstYear(word);
    }

    public int agrees(int line) {
        if (!isLine(line)) {
            return BAD;
        }
        Line at = lines[line];
        if (at.layers == 0) {
            return STATE;
        }
        int year = FIRST_YEAR;
        for (int i = 0; i < at.layers; i++) {
            int word = at.layerWords[i];
            year = Math.max(year, firstYear(word));
            if (!hasSpan(word) || year > lastYear(word)) {
                return NONE;
            }
        }
        return year;
    }

    // ---- 4 lights, hands, keeping

    public int light(int light, int line, int slot, int cells) {
        if (!Lights.isNumber(light) || !isLine(line) || !isCells(cells)) {
            return BAD;
        }
        if (lights.isFull()) {
            return FULL;
        }
        if (!isSlot(slot)) {
            return refuse(BEYOND);
        }
        lights.add(light, line, slot, cells);
        return lights.entries;
    }

    public int gain(int light, int line, int colour) {
        if (!Lights.isNumber(light) || !isLine(line) || !isColour(colour)) {
            return BAD;
        }
        splitRivals(lines[line], colour);
        return gainOf(light, line);
    }

    public int next(int line, int colour) {
        if (!isLine(line) || !isColour(colour)) {
            return BAD;
        }
        splitRivals(lines[line], colour);
        int best = NONE;
        int most = 0;
        for (int light = 0; light < Lights.COUNT; light++) {
            int gain = gainOf(light, line);
            if (gain > most) {
                most = gain;
                best = light;
            }
        }
        return best;
    }

    public int read(int line, int word) {
        if (!isLine(line) || !words.isNumber(word)) {
            return BAD;
        }
        if (hands.isFull()) {
            return FULL;
        }
        if (words.struck[word]) {
            return refuse(NOTHING);
        }
        hands.add(line, word);
        return hands.entries;
    }

    public int spread(int line) {
        if (!isLine(line)) {
            return BAD;
        }
        int unlike = 0;
        int most = 0;
        latestAsked = NONE;
        for (int word = 0; word < words.ever; word++) {
            int times = hands.timesRead(line, word);
            if (times > 0) {
                unlike++;
            }
            if (times > most) {
                most = times;
                latestAsked = word;
            }
        }
        return unlike;
    }

    public int wall(int worth, int cost, boolean leave) {
        if (worth < 0 || worth > Walls.MOST_WORTH || cost < 1 || cost > Walls.MOST_COST) {
            return BAD;
        }
        if (walls.isFull()) {
            return FULL;
        }
        return walls.add(worth, cost, leave);
    }

    public int keep(int budget) {
        if (budget < 0 || budget > Walls.MOST * Walls.MOST_COST) {
            return BAD;
        }
        latestAsked = walls.bestSet(budget);
        return Walls.sumOf(walls.worths, latestAsked);
    }

    // ---- 5 what is told

    public int asked() {
        return latestAsked;
    }

    public int count(int what) {
        if (what < 0 || what > LAST_COUNT) {
            return BAD;
        }
        return counted(what);
    }

    public int finding() {
        return latestFinding;
    }

    public int findings(int f) {
        if (f < NOTHING || f > SIZE) {
            return BAD;
        }
        return timesFound[f];
    }

    public long digest() {
        long h = 17;
        for (int what = 0; what <= LAST_COUNT; what++) {
            h = 31 * h + counted(what);
        }
        h = words.digestFrom(h);
        for (int line = 0; line < LINES; line++) {
            h = lines[line].digestCells(h);
        }
        for (int line = 0; line < LINES; line++) {
            h = lines[line].digestLayers(h);
        }
        return sheets.digestFrom(h);
    }

    // ---- what several calls share

    private int refuse(int why) {
        latestFinding = why;
        timesFound[why]++;
        return FINDING;
    }

    private static boolean isLine(int line) {
        return line >= 0 && line < LINES;
    }

    private static boolean isSlot(int slot) {
        return slot >= 0 && slot < SLOTS;
    }

    private static boolean isCells(int bits) {
        return bits >= 0 && bits <= ALL_CELLS;
    }

    private static boolean isColour(int colour) {
        return colour >= 1 && colour <= COLOURS;
    }

    private boolean makesWord(int s) {
        int letters = Words.lettersIn(sheets.rows[s], sheets.sizes[s]);
        return letters >= 1 && letters <= Words.LONGEST;
    }

    private boolean isLayer(int word) {
        for (int line = 0; line < LINES; line++) {
            if (lines[line].hasLayerOf(word)) {
                return true;
            }
        }
        return false;
    }

    private int counted(int what) {
        int sum = 0;
        switch (what) {
            case 0:
                return words.ever;
            case 1:
                return words.sizeThere();
            case 2:
                for (int line = 0; line < LINES; line++) {
                    sum += lines[line].sizeKnown();
                }
                return sum;
            case 3:
                for (int line = 0; line < LINES; line++) {
                    sum += lines[line].layers;
                }
                return sum;
            case 4:
                return hands.entries;
            default:
                return walls.entries;
        }
    }

    /** LACK of a WORD AT a SLOT in a colour, or NONE if it can't be there. */
    private int lackAt(Line at, int word, int start, int colour) {
        int sum = 0;
        for (int slot = 0; slot < SLOTS; slot++) {
            int cells = words.cellsIn(word, start, slot);
            int inColour = at.cells[colour][slot];
            if ((inColour & ~cells) != 0) {
                return NONE;
            }
            sum += Integer.bitCount(cells & at.known(slot) & ~inColour);
        }
        return sum;
    }

    private int bareAt(Line at, int word, int start) {
        int sum = 0;
        for (int slot = 0; slot < SLOTS; slot++) {
            sum += Integer.bitCount(words.cellsIn(word, start, slot) & at.cells[BARE][slot]);
        }
        return sum;
    }

    private void gatherPlaces(Line at, int colour, Places into) {
        into.entries = 0;
        for (int word = 0; word < words.ever; word++) {
            for (int start = 0; start < SLOTS; start++) {
                if (words.isThere(word) && words.isOnLine(word, start)) {
                    int lack = lackAt(at, word, start, colour);
                    if (lack != NONE) {
                        into.add(word, start, lack, bareAt(at, word, start));
                    }
                }
            }
        }
    }

    /** Notes for each SLOT the cells that some RIVALS in a colour have, and others not. */
    private void splitRivals(Line at, int colour) {
        gatherPlaces(at, colour, placesOfA);
        int least = placesOfA.leastLack();
        for (int slot = 0; slot < SLOTS; slot++) {
            int inSome = 0;
            int inAll = ALL_CELLS;
            for (int i = 0; i < placesOfA.entries; i++) {
                if (placesOfA.lacks[i] == least) {
                    int cells = words.cellsIn(placesOfA.words[i], placesOfA.slots[i], slot);
                    inSome |= cells;
                    inAll &= cells;
                }
            }
            split[slot] = inSome & ~inAll;
        }
    }

    /** GAIN of a LIGHT for the RIVALS that were split last. */
    private int gainOf(int light, int line) {
        int sum = 0;
        for (int slot = 0; slot < SLOTS; slot++) {
            int shown = lights.cellsIn(light, line, slot) & ~lines[line].known(slot);
            sum += Integer.bitCount(shown & split[slot]);
        }
        return sum;
    }

    private boolean fitsIn(Line at, int slot) {
        for (int colour = 1; colour <= COLOURS; colour++) {
            int painted = 0;
            for (int i = 0; i < at.layers; i++) {
                if (at.layerColours[i] == colour) {
                    painted |= layerCells(at, i, slot);
                }
            }
            if ((at.cells[colour][slot] & ~painted) != 0) {
                return false;
            }
        }
        return true;
    }

    /** How often a LAYER has faded in a SLOT in which the LAYERS FIT. */
    private int fadedIn(Line at, int slot) {
        int sum = 0;
        // A LAYER hides nothing where bare wall, or the colour of one beneath it, shows through.
        int through = at.cells[BARE][slot];
        for (int i = 0; i < at.layers; i++) {
            sum += Integer.bitCount(layerCells(at, i, slot) & through);
            through |= at.cells[at.layerColours[i]][slot];
        }
        return sum;
    }

    private int layerCells(Line at, int i, int slot) {
        return words.cellsIn(at.layerWords[i], at.layerSlots[i], slot);
    }

    private static void addPlace(Line at, Places from, int i, int colour) {
        at.addLayer(from.words[i], from.slots[i], colour);
    }

    private boolean hasSpan(int word) {
        if (words.kinds[word] == PLAIN) {
            return true;
        }
        int last = words.tos[word];
        int ofWall = street.became(street.wallNumber, street.wallYear, last);
        return ofWall != NONE && ofWall == street.became(words.numbers[word], words.froms[word], last);
    }

    private int firstYear(int word) {
        return words.kinds[word] == PLAIN ? FIRST_YEAR : words.froms[word];
    }

    private int lastYear(int word) {
        return words.kinds[word] == PLAIN ? LAST_YEAR : words.tos[word];
    }

    /** SHEETS: rows of bytes, or missing. */
    private static final class Sheets {
        static final int COUNT = 4, LONGEST = 10;
        private static final int MISSING = -1, FIRST_BYTE = 97;

        final byte[][] rows = new byte[COUNT][LONGEST];
        final int[] sizes = new int[COUNT];

        Sheets() {
            Arrays.fill(sizes, MISSING);
        }

        static boolean isNumber(int s) {
            return s >= 0 && s < COUNT;
        }

        boolean isThere(int s) {
            return sizes[s] != MISSING;
        }

        /** Whether n bytes from i on are there; n is none or more. */
        boolean hasRun(int s, int i, int n) {
            return i >= 0 && n <= sizes[s] && i <= sizes[s] - n;
        }

        void bring(int s, int n) {
            Arrays.fill(rows[s], (byte) FIRST_BYTE);
            sizes[s] = n;
        }

        void remove(int s) {
            sizes[s] = MISSING;
        }

        int changeByte(int s, int i, int v) {
            int was = rows[s][i];
            rows[s][i] = (byte) v;
            return was;
        }

        void carry(int s, int i, int to, int j, int n) {
            System.arraycopy(rows[s], i, rows[to], j, n);
        }

        long digestFrom(long start) {
            long h = start;
            for (int s = 0; s < COUNT; s++) {
                h = 31 * h + sizes[s];
                for (int i = 0; i < sizes[s]; i++) {
                    h = 31 * h + rows[s][i];
                }
            }
            return h;
        }
    }

    /** LETTERS with their STROKES, and the WORDS that are made of them. */
    private static final class Words {
        static final int MOST = 16, LONGEST = 8, LAST_FACT = 5;
        private static final int FIRST_LETTER = 97, LAST_LETTER = 122;

        final int[] strokes = new int[LAST_LETTER - FIRST_LETTER + 1];
        final byte[][] letters = new byte[MOST][LONGEST];
        final int[] lengths = new int[MOST];
        final int[] kinds = new int[MOST];
        final int[] firms = new int[MOST];
        final int[] numbers = new int[MOST];
        final int[] froms = new int[MOST];
        final int[] tos = new int[MOST];
        final boolean[] struck = new boolean[MOST];
        int ever;

        static boolean isLetter(int c) {
            return c >= FIRST_LETTER && c <= LAST_LETTER;
        }

        static int lettersIn(byte[] row, int size) {
            int sum = 0;
            for (int i = 0; i < size; i++) {
                if (isLetter(row[i])) {
                    sum++;
                }
            }
            return sum;
        }

        int changeStrokes(int c, int bits) {
            int was = strokes[c - FIRST_LETTER];
            strokes[c - FIRST_LETTER] = bits;
            return was;
        }

        boolean isNumber(int word) {
            return word >= 0 && word < ever;
        }

        boolean isThere(int word) {
            return isNumber(word) && !struck[word];
        }

        boolean isFull() {
            return ever >= MOST;
        }

        /** Whether a WORD is of a KIND; an HEIR is a FIRM, too. */
        boolean isOf(int word, int kind) {
            return kinds[word] == kind || (kind == FIRM && kinds[word] == HEIR);
        }

        int add(byte[] row, int size, int kind, int firm) {
            int made = ever;
            int length = 0;
            for (int i = 0; i < size && length < LONGEST; i++) {
                if (isLetter(row[i])) {
                    letters[made][length] = row[i];
                    length++;
                }
            }
            lengths[made] = length;
            kinds[made] = kind;
            firms[made] = firm;
            settle(made, NONE, NONE, NONE);
            ever++;
            return made;
        }

        void settle(int word, int number, int from, int to) {
            numbers[word] = number;
            froms[word] = from;
            tos[word] = to;
        }

        /** How many SLOGANS and HEIRS a WORD has. */
        int sizeOfHouse(int firm) {
            int sum = 0;
            for (int word = 0; word < ever; word++) {
                if (!struck[word] && firms[word] == firm) {
                    sum++;
                }
            }
            return sum;
        }

        int founderOf(int heir) {
            int firm = heir;
            for (int steps = 0; steps < MOST && kinds[firm] == HEIR; steps++) {
                firm = firms[firm];
            }
            return firm;
        }

        int sizeThere() {
            int sum = 0;
            for (int word = 0; word < ever; word++) {
                if (!struck[word]) {
                    sum++;
                }
            }
            return sum;
        }

        int lettersThere() {
            int sum = 0;
            for (int word = 0; word < ever; word++) {
                if (!struck[word]) {
                    sum += lengths[word];
                }
            }
            return sum;
        }

        int factOf(int word, int what) {
            switch (what) {
                case 0:
                    return kinds[word];
                case 1:
                    return lengths[word];
                case 2:
                    return sizeInCells(word);
                case 3:
                    return froms[word];
                case 4:
                    return tos[word];
                default:
                    return numbers[word];
            }
        }

        private int sizeInCells(int word) {
            int sum = 0;
            for (int slot = 0; slot < LONGEST; slot++) {
                sum += Integer.bitCount(cellsIn(word, 0, slot));
            }
            return sum;
        }

        boolean isOnLine(int word, int start) {
            return start >= 0 && start <= SLOTS - lengths[word];
        }

        /** The cells in a SLOT of a WORD AT the SLOT start. */
        int cellsIn(int word, int start, int slot) {
            int i = slot - start;
            if (i < 0 || i >= lengths[word]) {
                return 0;
            }
            return strokes[letters[word][i] - FIRST_LETTER];
        }

        long digestFrom(long start) {
            long h = start;
            for (int word = 0; word < ever; word++) {
                if (struck[word]) {
                    h = 31 * h - 1;
                } else {
                    for (int what = 0; what <= LAST_FACT; what++) {
                        h = 31 * h + factOf(word, what);
                    }
                }
            }
            return h;
        }
    }

    /** A LINE of THE WALL: what is SEEN on it, and its LAYERS from the lowest up. */
    private static final class Line {
        static final int LAST_FACT = 2;
        private static final int MOST_LAYERS = 3;

        /** For bare and each colour, the bits of the CELLS of each SLOT in which it is SEEN. */
        final int[][] cells = new int[COLOURS + 1][SLOTS];
        final int[] layerWords = new int[MOST_LAYERS];
        final int[] layerSlots = new int[MOST_LAYERS];
        final int[] layerColours = new int[MOST_LAYERS];
        int layers;

        int known(int slot) {
            return cells[0][slot] | cells[1][slot] | cells[2][slot] | cells[3][slot];
        }

        int show(int slot, int bits, int v) {
            int before = v == UNKNOWN ? ~known(slot) : cells[v][slot];
            for (int was = BARE; was <= COLOURS; was++) {
                cells[was][slot] &= ~bits;
            }
            if (v != UNKNOWN) {
                cells[v][slot] |= bits;
            }
            return Integer.bitCount(bits & ~before);
        }

        int valueAt(int slot, int cell) {
            for (int v = BARE; v <= COLOURS; v++) {
                if ((cells[v][slot] >> cell & 1) != 0) {
                    return v;
                }
            }
            return UNKNOWN;
        }

        boolean shows(int v) {
            int bits = 0;
            for (int slot = 0; slot < SLOTS; slot++) {
                bits |= cells[v][slot];
            }
            return bits != 0;
        }

        int sizeKnown() {
            int sum = 0;
            for (int slot = 0; slot < SLOTS; slot++) {
                sum += Integer.bitCount(known(slot));
            }
            return sum;
        }

        boolean isFull() {
            return layers >= MOST_LAYERS;
        }

        boolean hasLayerIn(int colour) {
            for (int i = 0; i < layers; i++) {
                if (layerColours[i] == colour) {
                    return true;
                }
            }
            return false;
        }

        boolean hasLayerOf(int word) {
            for (int i = 0; i < layers; i++) {
                if (layerWords[i] == word) {
                    return true;
                }
            }
            return false;
        }

        void addLayer(int word, int slot, int colour) {
            layerWords[layers] = word;
            layerSlots[layers] = slot;
            layerColours[layers] = colour;
            layers++;
        }

        int factOf(int i, int what) {
            if (what == 0) {
                return layerWords[i];
            }
            return what == 1 ? layerSlots[i] : layerColours[i];
        }

        long digestCells(long start) {
            long h = start;
            for (int slot = 0; slot < SLOTS; slot++) {
                for (int cell = 0; cell < CELLS; cell++) {
                    h = 31 * h + valueAt(slot, cell);
                }
            }
            return h;
        }

        long digestLayers(long start) {
            long h = start;
            for (int i = 0; i < layers; i++) {
                for (int what = 0; what <= LAST_FACT; what++) {
                    h = 31 * h + factOf(i, what);
                }
            }
            return h;
        }
    }

    /** All places in which WORDS CAN be in one colour, in the order of SEEKING. */
    private static final class Places {
        private static final int MOST = Words.MOST * SLOTS;

        final int[] words = new int[MOST];
        final int[] slots = new int[MOST];
        final int[] lacks = new int[MOST];
        final int[] bares = new int[MOST];
        int entries;

        void add(int word, int slot, int lack, int bare) {
            words[entries] = word;
            slots[entries] = slot;
            lacks[entries] = lack;
            bares[entries] = bare;
            entries++;
        }

        /** The least LACK, or NONE where there is no place. */
        int leastLack() {
            int least = NONE;
            for (int i = 0; i < entries; i++) {
                least = i == 0 ? lacks[i] : Math.min(least, lacks[i]);
            }
            return least;
        }

        /** Where the READING is noted: the places come in its order, so it is the first RIVAL. */
        int firstRival() {
            int least = leastLack();
            for (int i = 0; i < entries; i++) {
                if (lacks[i] == least) {
                    return i;
                }
            }
            return NONE;
        }

        int sizeOfRivals() {
            int least = leastLack();
            int sum = 0;
            for (int i = 0; i < entries; i++) {
                if (lacks[i] == least) {
                    sum++;
                }
            }
            return sum;
        }
    }

    /** The TWO through one another that have the fewest FADED. */
    private static final class Pair {
        int fewest;
        int ofA;
        int ofB;
        boolean aBeneath;

        int tries(Places a, Places b) {
            int sum = 0;
            for (int i = 0; i < a.entries; i++) {
                for (int j = 0; j < b.entries; j++) {
                    if (a.words[i] != b.words[j]) {
                        sum++;
                    }
                }
            }
            return sum;
        }

        /**
         * Whether there is a pair. Each has all cells of its colour, so they FIT where no third
         * colour is SEEN; and then the one beneath has faded where it is bare, but the one over it
         * wherever it has LACK.
         */
        boolean seek(Places a, Places b) {
            fewest = NONE;
            for (int i = 0; i < a.entries; i++) {
                for (int j = 0; j < b.entries; j++) {
                    if (a.words[i] != b.words[j]) {
                        take(a.bares[i] + b.lacks[j], i, j, true);
                        take(a.lacks[i] + b.bares[j], i, j, false);
                    }
                }
            }
            return fewest != NONE;
        }

        private void take(int sum, int i, int j, boolean beneath) {
            if (fewest == NONE || sum < fewest) {
                fewest = sum;
                ofA = i;
                ofB = j;
                aBeneath = beneath;
            }
        }
    }

    /** THE STREET and how it was numbered anew, and THE WALL's NUMBER in it. */
    private static final class Street {
        private static final int MOST = 8, LAST_NUMBER = 200;

        final int[] years = new int[MOST];
        final int[] factors = new int[MOST];
        final int[] shifts = new int[MOST];
        int times;
        int wallNumber = 1;
        int wallYear = 1900;

        static boolean isNumber(int n) {
            return n >= 1 && n <= LAST_NUMBER;
        }

        static boolean isYear(int year) {
            return year >= FIRST_YEAR && year <= LAST_YEAR;
        }

        boolean isFull() {
            return times >= MOST;
        }

        int latestYear() {
            return times > 0 ? years[times - 1] : FIRST_YEAR - 1;
        }

        void add(int year, int u, int v) {
            years[times] = year;
            factors[times] = u;
            shifts[times] = v;
            times++;
        }

        int became(int n, int year, int other) {
            if (other < year) {
                return NONE;
            }
            int now = n;
            for (int i = 0; i < times; i++) {
                if (years[i] > year && years[i] <= other) {
                    now = Math.min(Math.max(now * factors[i] + shifts[i], 1), LAST_NUMBER);
                }
            }
            return now;
        }
    }

    /** What LIGHTS show. */
    private static final class Lights {
        static final int COUNT = 6;
        private static final int MOST = 30;

        final int[] ofLight = new int[MOST];
        final int[] onLine = new int[MOST];
        final int[] inSlot = new int[MOST];
        final int[] cells = new int[MOST];
        int entries;

        static boolean isNumber(int light) {
            return light >= 0 && light < COUNT;
        }

        boolean isFull() {
            return entries >= MOST;
        }

        void add(int light, int line, int slot, int bits) {
            ofLight[entries] = light;
            onLine[entries] = line;
            inSlot[entries] = slot;
            cells[entries] = bits;
            entries++;
        }

        int cellsIn(int light, int line, int slot) {
            int bits = 0;
            for (int i = 0; i < entries; i++) {
                if (ofLight[i] == light && onLine[i] == line && inSlot[i] == slot) {
                    bits |= cells[i];
                }
            }
            return bits;
        }
    }

    /** HANDS: which WORD each read on which LINE. */
    private static final class Hands {
        private static final int MOST = 12;

        final int[] onLine = new int[MOST];
        final int[] ofWord = new int[MOST];
        int entries;

        boolean isFull() {
            return entries >= MOST;
        }

        void add(int line, int word) {
            onLine[entries] = line;
            ofWord[entries] = word;
            entries++;
        }

        int timesRead(int line, int word) {
            int sum = 0;
            for (int i = 0; i < entries; i++) {
                if (onLine[i] == line && ofWord[i] == word) {
                    sum++;
                }
            }
            return sum;
        }
    }

    /** WALLS to keep. */
    private static final class Walls {
        static final int MOST = 12, MOST_WORTH = 1000, MOST_COST = 1000;

        final int[] worths = new int[MOST];
        final int[] costs = new int[MOST];
        int withLeave;
        int entries;

        boolean isFull() {
            return entries >= MOST;
        }

        int add(int worth, int cost, boolean leave) {
            worths[entries] = worth;
            costs[entries] = cost;
            if (leave) {
                withLeave |= 1 << entries;
            }
            entries++;
            return entries - 1;
        }

        static int sumOf(int[] row, int bits) {
            int sum = 0;
            for (int i = 0; i < MOST; i++) {
                if ((bits >> i & 1) != 0) {
                    sum += row[i];
                }
            }
            return sum;
        }

        /** The bits of THE BEST set; sets are told from the least bits up, so ties need no test. */
        int bestSet(int budget) {
            int best = 0;
            int bestWorth = 0;
            int bestCost = 0;
            for (int bits = 1; bits < 1 << entries; bits++) {
                if ((bits & ~withLeave) == 0) {
                    int cost = sumOf(costs, bits);
                    int worth = sumOf(worths, bits);
                    boolean better = worth > bestWorth || (worth == bestWorth && cost < bestCost);
                    if (cost <= budget && better) {
                        best = bits;
                        bestWorth = worth;
                        bestCost = cost;
                    }
                }
            }
            return best;
        }
    }
}
