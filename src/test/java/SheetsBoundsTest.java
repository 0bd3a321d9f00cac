/** Promises 1 to 6 at every bound that the document names. */
public final class SheetsBoundsTest {
    private static final int MIN = Scenes.MIN, MAX = Scenes.MAX;
    private static final int WRITTEN = Scenes.WRITTEN, EMPTY = Scenes.EMPTY, TEN = Scenes.TEN, MISSING = Scenes.MISSING;

    public static void main(String[] args) {
        newLettersSheetsWords();
        newWall();
        newStreet();
        newLightsHandsWalls();
        letter();
        sheet();
        sheetAnew();
        lay();
        layCut();
        tear();
        copyTaken();
        copyRefused();
        copyInOrder();
        Checks.finish();
    }

    /** Promise 1: LETTERS without STROKES; no SHEETS, WORDS. */
    private static void newLettersSheetsWords() {
        GhostSigns x = new GhostSigns();
        for (int c = 'a'; c <= 'z'; c++) {
            Checks.due("1: strokes of " + c, x.letter(c, 1), 0);
        }
        for (int s = 0; s < 4; s++) {
            int at = s;
            Cases.finds("1: no SHEET " + s, GhostSigns::new, y -> y.tear(at), Checks.NOTHING);
        }
        Checks.due("1: no WORDS ever", x.count(0), 0);
        Checks.due("1: no WORDS", x.count(1), 0);
        Checks.due("1: no WORD 0", x.told(0, 0), Checks.BAD);
        Checks.due("1: finding()", x.finding(), 0);
        for (int f = 1; f <= 5; f++) {
            Checks.due("1: findings(" + f + ")", x.findings(f), 0);
        }
        Checks.due("1: asked()", x.asked(), 0);
    }

    /** Promise 1: nothing known of THE WALL; a new object for each LINE, as one serves 512 calls. */
    private static void newWall() {
        for (int line = 0; line < 4; line++) {
            GhostSigns x = new GhostSigns();
            for (int slot = 0; slot < 10; slot++) {
                for (int cell = 0; cell < 15; cell++) {
                    Checks.due("1: seen(" + line + ", " + slot + ", " + cell + ")", x.seen(line, slot, cell), 4);
                }
            }
            Checks.due("1: CELLS known", x.count(2), 0);
            Checks.due("1: LAYERS", x.count(3), 0);
            Checks.due("1: LAYERS of LINE " + line, x.bare(line), 0);
            Checks.due("1: the lowest LAYER of LINE " + line, x.layerTold(line, 0, 0), Checks.NONE);
        }
    }

    /** Promise 1: THE WALL's NUMBER 1 as of 1900, in a street that was never numbered anew. */
    private static void newStreet() {
        GhostSigns x = new GhostSigns();
        int there = Checks.firm(x, "a", 1, 1900, 1900, Checks.NONE);
        int beside = Checks.firm(x, "a", 2, 1900, 1900, Checks.NONE);
        int early = Checks.firm(x, "a", 1, 1899, 1899, Checks.NONE);
        Checks.due("1: a FIRM at NUMBER 1 in 1900", x.span(there, false), 1900);
        Checks.due("1: a FIRM at NUMBER 2 in 1900", x.span(beside, false), Checks.NONE);
        Checks.due("1: a FIRM at NUMBER 1 in 1899", x.span(early, false), Checks.NONE);
        Checks.due("1: NUMBER 200 for all years", x.number(200, 1700, 2100), 200);
        Checks.due("1: NUMBER 1 for all years", x.number(1, 1700, 2100), 1);
        Checks.due("1: numbered anew the first time", x.renumber(1700, 1, 0), 1);
    }

    /** Promise 1: nothing else is there, either. */
    private static void newLightsHandsWalls() {
        GhostSigns x = new GhostSigns();
        for (int line = 0; line < 4; line++) {
            Checks.due("1: SPREAD of LINE " + line, x.spread(line), 0);
        }
        Checks.due("1: HANDS", x.count(4), 0);
        Checks.due("1: WALLS", x.count(5), 0);
        Checks.due("1: THE BEST of none", x.keep(12000), 0);
        Checks.due("1: the first line of a LIGHT", x.light(0, 0, 0, 0), 1);
        Checks.due("1: the first WALL to keep", x.wall(0, 1, true), 0);
    }

    /** Promise 2. */
    private static void letter() {
        new Edge("2: letter(c, 5)", Scenes::lived, (x, c) -> x.letter(c, 5))
                .takes('a', Scenes.A).takes('y', 0).takes('z', Scenes.Z).bad(MIN, -1, 0, 'A', 96, 123, 97 + 256, MAX);
        new Edge("2: letter('a', strokes)", Scenes::lived, (x, strokes) -> x.letter('a', strokes))
                .takes(0, Scenes.A).takes(1, Scenes.A).takes(16384, Scenes.A).takes(32767, Scenes.A)
                .bad(Scenes.noBits()).bad(32767 + 65536);
        Cases.bad("2: letter(96, 32768)", Scenes::lived, x -> x.letter(96, 32768));
        GhostSigns x = new GhostSigns();
        for (int c = 'a'; c <= 'z'; c++) {
            x.letter(c, 32767 - c);
        }
        for (int c = 'a'; c <= 'z'; c++) {
            Checks.due("2: each has its own, " + c, x.letter(c, 0), 32767 - c);
            Checks.due("2: none again, " + c, x.letter(c, 32767), 0);
        }
    }

    /** Promise 3. */
    private static void sheet() {
        new Edge("3: sheet(s, 2)", Scenes::lived, (x, s) -> x.sheet(s, 2))
                .takes(0, 2).takes(1, 2).takes(2, 2).takes(3, 2).bad(Scenes.noSheet());
        new Edge("3: sheet(WRITTEN, n)", Scenes::lived, (x, n) -> x.sheet(WRITTEN, n))
                .takes(0, 0).takes(1, 1).takes(10, 10).bad(11, MAX).finds(Checks.SIZE, -1, MIN);
        new Edge("3: sheet(MISSING, n)", Scenes::lived, (x, n) -> x.sheet(MISSING, n))
                .takes(0, 0).takes(10, 10).bad(11, MAX).finds(Checks.SIZE, -1, MIN);
        new Edge("3: BAD ahead of SIZE, sheet(s, -1)", Scenes::lived, (x, s) -> x.sheet(s, -1)).bad(Scenes.noSheet());
        Cases.bad("3: sheet(4, 11)", Scenes::lived, x -> x.sheet(4, 11));
    }

    /** Promise 3: a SHEET that was there is there with n bytes 97, and no others. */
    private static void sheetAnew() {
        for (int n = 0; n <= 10; n++) {
            GhostSigns x = new GhostSigns();
            Checks.write(x, 1, "zyxwvutsrq");
            Checks.due("3: sheet(1, " + n + ")", x.sheet(1, n), n);
            for (int i = 0; i < n; i++) {
                Checks.due("3: byte " + i + " of " + n, x.lay(1, i, 98), 1097);
            }
            int beyond = n;
            Checks.found(x, "3: byte " + n + " of " + n, () -> x.lay(1, beyond, 98), Checks.BEYOND);
        }
        GhostSigns y = new GhostSigns();
        Checks.write(y, 1, "bcd");
        y.sheet(1, 1);
        y.sheet(1, 3);
        Checks.due("3: what was cut off does not come again", y.lay(1, 2, 0), 1097);
    }

    /** Promise 4. */
    private static void lay() {
        new Edge("4: lay(s, 0, 98)", () -> Scenes.livedWith("c"), (x, s) -> x.lay(s, 0, 98))
                .takes(0, 1097).takes(2, 1097).takes(3, 1099).bad(Scenes.noSheet())
                .finds(Checks.BEYOND, EMPTY);
        new Edge("4: lay(WRITTEN, i, 122)", Scenes::lived, (x, i) -> x.lay(WRITTEN, i, 122))
                .takes(0, 1097).takes(2, 1045).finds(Checks.BEYOND, MIN, -1, 3, 10, MAX);
        new Edge("4: lay(TEN, i, 122)", Scenes::lived, (x, i) -> x.lay(TEN, i, 122))
                .takes(0, 1097).takes(9, 1097).finds(Checks.BEYOND, MIN, -1, 10, MAX);
        new Edge("4: lay(EMPTY, i, 122)", Scenes::lived, (x, i) -> x.lay(EMPTY, i, 122))
                .finds(Checks.BEYOND, MIN, -1, 0, 1, MAX);
        new Edge("4: NOTHING ahead of BEYOND, lay(MISSING, i, 122)", Scenes::lived, (x, i) -> x.lay(MISSING, i, 122))
                .finds(Checks.NOTHING, MIN, -1, 0, 10, MAX);
        Cases.bad("4: lay(4, -1, 0)", Scenes::lived, x -> x.lay(4, -1, 0));
    }

    /** Promise 4: v is cut to a byte, -128 .. 127, and told with 1000 more. */
    private static void layCut() {
        int[] laid = {-128, 127, 128, -129, 255, 256, 0, -1, 97 + 256, MIN, MAX};
        int[] kept = {-128, 127, -128, 127, -1, 0, 0, -1, 97, 0, -1};
        GhostSigns x = new GhostSigns();
        x.sheet(0, 3);
        for (int i = 0; i < laid.length; i++) {
            x.lay(0, 1, laid[i]);
            Checks.due("4: what was laid as " + laid[i], x.lay(0, 1, 5), 1000 + kept[i]);
        }
        Checks.due("4: the byte ahead of it", x.lay(0, 0, 0), 1097);
        Checks.due("4: the byte behind it", x.lay(0, 2, 0), 1097);
    }

    /** Promise 5. */
    private static void tear() {
        new Edge("5: tear(s)", () -> Scenes.livedWith("a"), (x, s) -> x.tear(s))
                .takes(0, 1).takes(EMPTY, 1).takes(TEN, 1).takes(3, 1).bad(Scenes.noSheet());
        Cases.finds("5: never there", GhostSigns::new, x -> x.tear(0), Checks.NOTHING);
        Cases.finds("5: torn already", Scenes::lived, x -> x.tear(MISSING), Checks.NOTHING);
        for (int s = 0; s < 4; s++) {
            int torn = s;
            GhostSigns x = Scenes.livedWith("a");
            x.tear(s);
            Checks.found(x, "5: twice", () -> x.tear(torn), Checks.NOTHING);
            for (int other = 0; other < 4; other++) {
                Checks.due("5: the others stay", other == s ? 1 : x.tear(other), 1);
            }
        }
    }

    /** Promise 6: as many as there are, none, and a SHEET onto itself. */
    private static void copyTaken() {
        becomes("all ten", x -> x.copy(TEN, 0, 3, 0, 10), 3, "aaaaaaaaaa");
        becomes("all ten onto themselves", x -> x.copy(3, 0, 3, 0, 10), 3, "bcdefghijk");
        becomes("one up, as if taken ahead", x -> x.copy(3, 0, 3, 1, 9), 3, "bbcdefghij");
        becomes("one down, as if taken ahead", x -> x.copy(3, 1, 3, 0, 9), 3, "cdefghijkk");
        becomes("the last to the first place", x -> x.copy(3, 9, 3, 0, 1), 3, "kcdefghijk");
        becomes("the first to the last place", x -> x.copy(3, 0, 3, 9, 1), 3, "bcdefghijb");
        becomes("between two", x -> x.copy(3, 7, WRITTEN, 0, 3), WRITTEN, "ijk");
        becomes("between two, the other stays", x -> x.copy(3, 7, WRITTEN, 0, 3), 3, "bcdefghijk");
        becomes("none at the end of each", x -> x.copy(3, 10, WRITTEN, 3, 0), WRITTEN, "ab-");
        becomes("none of one without bytes", x -> x.copy(EMPTY, 0, WRITTEN, 0, 0), WRITTEN, "ab-");
        becomes("none to one without bytes", x -> x.copy(WRITTEN, 3, EMPTY, 0, 0), EMPTY, "");
    }

    /** SHEET 3 holds "bcdefghijk" ahead of the call. */
    private static void becomes(String name, Cases.Call call, int s, String text) {
        GhostSigns x = Cases.takes("6: " + name, () -> Scenes.livedWith("bcdefghijk"), call, 1);
        for (int i = 0; i < text.length(); i++) {
            Checks.due("6: " + name + ", byte " + i, x.lay(s, i, 0), 1000 + text.charAt(i));
        }
    }

    /** Promise 6: each number of the call by itself. */
    private static void copyRefused() {
        new Edge("6: copy(s, 0, TEN, 0, 1)", () -> Scenes.livedWith("bcd"), (x, s) -> x.copy(s, 0, TEN, 0, 1))
                .takes(0, 1).takes(3, 1).bad(Scenes.noSheet()).finds(Checks.BEYOND, EMPTY);
        new Edge("6: copy(TEN, 0, to, 0, 1)", () -> Scenes.livedWith("bcd"), (x, to) -> x.copy(TEN, 0, to, 0, 1))
                .takes(0, 1).takes(3, 1).bad(Scenes.noSheet()).finds(Checks.BEYOND, EMPTY);
        new Edge("6: copy(WRITTEN, i, TEN, 0, 2)", Scenes::lived, (x, i) -> x.copy(WRITTEN, i, TEN, 0, 2))
                .takes(0, 1).takes(1, 1).finds(Checks.BEYOND, MIN, -1, 2, 3, MAX - 1, MAX);
        new Edge("6: copy(TEN, 0, WRITTEN, j, 2)", Scenes::lived, (x, j) -> x.copy(TEN, 0, WRITTEN, j, 2))
                .takes(0, 1).takes(1, 1).finds(Checks.BEYOND, MIN, -1, 2, 3, MAX - 1, MAX);
        new Edge("6: copy(WRITTEN, 0, TEN, 0, n)", Scenes::lived, (x, n) -> x.copy(WRITTEN, 0, TEN, 0, n))
                .takes(0, 1).takes(3, 1).finds(Checks.BEYOND, 4, 10, MAX).finds(Checks.SIZE, -1, MIN);
        new Edge("6: copy(TEN, 0, WRITTEN, 0, n)", Scenes::lived, (x, n) -> x.copy(TEN, 0, WRITTEN, 0, n))
                .takes(0, 1).takes(3, 1).finds(Checks.BEYOND, 4, 10, MAX).finds(Checks.SIZE, -1, MIN);
        new Edge("6: copy(TEN, 1, TEN, 1, n)", Scenes::lived, (x, n) -> x.copy(TEN, 1, TEN, 1, n))
                .takes(9, 1).finds(Checks.BEYOND, 10, MAX);
        new Edge("6: none from a place, copy(WRITTEN, i, TEN, 0, 0)", Scenes::lived,
                (x, i) -> x.copy(WRITTEN, i, TEN, 0, 0))
                .takes(3, 1).finds(Checks.BEYOND, -1, 4);
        new Edge("6: none to a place, copy(TEN, 0, WRITTEN, j, 0)", Scenes::lived,
                (x, j) -> x.copy(TEN, 0, WRITTEN, j, 0))
                .takes(3, 1).finds(Checks.BEYOND, -1, 4);
        Cases.finds("6: no SHEET to take from", Scenes::lived, x -> x.copy(MISSING, 0, TEN, 0, 1), Checks.NOTHING);
        Cases.finds("6: no SHEET to bring to", Scenes::lived, x -> x.copy(TEN, 0, MISSING, 0, 1), Checks.NOTHING);
        Cases.finds("6: no SHEET at all", Scenes::lived, x -> x.copy(MISSING, 0, MISSING, 0, 0), Checks.NOTHING);
    }

    /** Promise 6: of two refusals that both fit, the one that is told first. */
    private static void copyInOrder() {
        Cases.bad("6: BAD ahead of SIZE", Scenes::lived, x -> x.copy(4, 0, TEN, 0, -1));
        Cases.bad("6: BAD ahead of NOTHING, to", Scenes::lived, x -> x.copy(MISSING, 0, 4, 0, 1));
        Cases.bad("6: BAD ahead of NOTHING, s", Scenes::lived, x -> x.copy(-1, 0, MISSING, 0, 1));
        Cases.bad("6: BAD ahead of BEYOND", Scenes::lived, x -> x.copy(WRITTEN, 4, -1, 0, 1));
        Cases.finds("6: SIZE ahead of NOTHING, s", Scenes::lived, x -> x.copy(MISSING, 0, TEN, 0, -1), Checks.SIZE);
        Cases.finds("6: SIZE ahead of NOTHING, to", Scenes::lived, x -> x.copy(TEN, 0, MISSING, 0, -1), Checks.SIZE);
        Cases.finds("6: SIZE ahead of BEYOND", Scenes::lived, x -> x.copy(TEN, 11, WRITTEN, -1, -1), Checks.SIZE);
        Cases.finds("6: NOTHING ahead of BEYOND, s", Scenes::lived,
                x -> x.copy(MISSING, 0, TEN, 11, 1), Checks.NOTHING);
        Cases.finds("6: NOTHING ahead of BEYOND, to", Scenes::lived,
                x -> x.copy(TEN, 11, MISSING, 0, 1), Checks.NOTHING);
    }
}
