/** Objects to try calls on. Each is made anew by the same calls, so that two of one kind are alike. */
final class Scenes {
    /** WORDS of lived(), in the order in which it makes them; EVER is the first number that is none. */
    static final int PLAIN = 0, FIRM = 1, HEIR = 2, SLOGAN = 3, STRUCK = 4, LONG = 5, SHORT = 6;
    static final int LAST_IN_WALLS_YEAR = 7, LAST_A_YEAR_BEFORE = 8, EVER = 9;
    /** SHEETS of lived() and full(): "ab-", one of no bytes, one of ten letters, none. */
    static final int WRITTEN = 0, EMPTY = 1, TEN = 2, MISSING = 3;
    /** LINES of lived() and full(), by their LAYERS; on the last nothing is known. */
    static final int ONE_LAYER = 0, THREE_LAYERS = 1, NO_LAYERS = 2, UNTOUCHED = 3;
    static final int A = 0b111, B = 0b1010, C = 0b10000, Z = 32767;

    static final int MIN = Integer.MIN_VALUE, MAX = Integer.MAX_VALUE;

    private static final int EIGHT_TIMES = 8, THIRTY_LINES = 30, TWELVE = 12;

    private Scenes() {
    }

    interface Maker {
        GhostSigns make();
    }

    static int[] noSheet() {
        return new int[] {MIN, -1, 4, MAX};
    }

    static int[] noLine() {
        return new int[] {MIN, -1, 4, MAX};
    }

    static int[] noSlot() {
        return new int[] {MIN, -1, 10, MAX};
    }

    static int[] noBits() {
        return new int[] {MIN, -1, 32768, MAX};
    }

    static int[] noColour() {
        return new int[] {MIN, -1, 0, 4, MAX};
    }

    static int[] noYear() {
        return new int[] {MIN, 1699, 2101, MAX};
    }

    static int[] noNumber() {
        return new int[] {MIN, -1, 0, 201, MAX};
    }

    /** Numbers that are no WORD of lived(). */
    static int[] noWord() {
        return new int[] {MIN, Checks.NONE, -1, EVER, 15, 16, MAX};
    }

    /** Something of everything, and nothing that is full but the LAYERS of one LINE. */
    static GhostSigns lived() {
        GhostSigns x = new GhostSigns();
        x.mean();
        x.letter('a', A);
        x.letter('b', B);
        x.letter('c', C);
        x.letter('z', Z);
        makeWords(x);
        makeSheets(x);
        makeWall(x);
        makeStreet(x);
        x.light(0, UNTOUCHED, 3, 0b110);
        x.light(0, ONE_LAYER, 4, 0b1000);
        x.light(5, UNTOUCHED, 9, Z);
        x.read(ONE_LAYER, PLAIN);
        x.read(ONE_LAYER, FIRM);
        x.read(ONE_LAYER, FIRM);
        x.read(NO_LAYERS, PLAIN);
        x.wall(10, 5, true);
        x.wall(20, 9, true);
        x.wall(90, 1, false);
        Checks.due("lived: reading", x.reading(ONE_LAYER, 1), SLOGAN);
        Checks.due("lived: asked()", x.asked(), 3);
        Checks.due("lived: finding()", x.finding(), Checks.NOUGHT);
        return x;
    }

    private static void makeWords(GhostSigns x) {
        Checks.due("lived: PLAIN", Checks.word(x, "ab"), PLAIN);
        Checks.due("lived: FIRM", Checks.firm(x, "b", 12, 1800, 1900, Checks.NONE), FIRM);
        Checks.due("lived: HEIR", Checks.firm(x, "c", 30, 1850, 1899, FIRM), HEIR);
        Checks.due("lived: SLOGAN", Checks.slogan(x, "ba", HEIR), SLOGAN);
        Checks.due("lived: STRUCK", Checks.word(x, "c"), STRUCK);
        Checks.due("lived: strike", x.strike(STRUCK), 1);
        Checks.due("lived: LONG", Checks.word(x, "zzzzzzzz"), LONG);
        Checks.due("lived: SHORT", Checks.word(x, "a"), SHORT);
        int late = Checks.firm(x, "a", 24, 1850, 1880, Checks.NONE);
        int early = Checks.firm(x, "a", 24, 1850, 1879, Checks.NONE);
        Checks.due("lived: LAST_IN_WALLS_YEAR", late, LAST_IN_WALLS_YEAR);
        Checks.due("lived: LAST_A_YEAR_BEFORE", early, LAST_A_YEAR_BEFORE);
    }

    private static void makeSheets(GhostSigns x) {
        Checks.write(x, WRITTEN, "ab-");
        x.sheet(EMPTY, 0);
        x.sheet(TEN, 10);
        x.tear(MISSING);
    }

    private static void makeWall(GhostSigns x) {
        x.see(ONE_LAYER, 4, 0b101, 1);
        x.see(ONE_LAYER, 4, 0b010, 2);
        x.see(ONE_LAYER, 5, 0b1000, 0);
        x.see(NO_LAYERS, 9, 0b1, 3);
        x.layer(ONE_LAYER, PLAIN, 4, 1);
        x.layer(THREE_LAYERS, FIRM, 0, 1);
        x.layer(THREE_LAYERS, LONG, 2, 2);
        x.layer(THREE_LAYERS, SLOGAN, 8, 3);
    }

    private static void makeStreet(GhostSigns x) {
        x.renumber(1840, 2, 0);
        x.renumber(1900, 1, -3);
        x.address(24, 1880);
    }

    /** lived(), with the SHEET that is MISSING there holding a text. */
    static GhostSigns livedWith(String text) {
        GhostSigns x = lived();
        Checks.write(x, MISSING, text);
        return x;
    }

    /** lived(), and then as many of everything as there may be. */
    static GhostSigns full() {
        GhostSigns x = lived();
        Checks.fillWords(x);
        x.tear(MISSING);
        for (int times = 2; times < EIGHT_TIMES; times++) {
            Checks.due("full: renumber", x.renumber(1900 + 10 * times, 1, times), times + 1);
        }
        for (int lines = 3; lines < THIRTY_LINES; lines++) {
            Checks.due("full: light", x.light(lines % 6, UNTOUCHED, lines % 10, 1 << lines % 15), lines + 1);
        }
        for (int hands = 4; hands < TWELVE; hands++) {
            Checks.due("full: read", x.read(hands % 4, hands % 2 == 0 ? FIRM : LONG), hands + 1);
        }
        for (int walls = 3; walls < TWELVE; walls++) {
            Checks.due("full: wall", x.wall(walls, 80 * walls, true), walls);
        }
        return x;
    }

    /** As many WORDS of one letter a, and nothing else but the SHEET 3 that holds it. */
    static GhostSigns words(int many) {
        GhostSigns x = new GhostSigns();
        x.sheet(3, 1);
        for (int word = 0; word < many; word++) {
            Checks.due("word " + word, x.word(3), word);
        }
        return x;
    }
}
