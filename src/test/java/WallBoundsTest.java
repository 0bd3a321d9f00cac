/** Promises 14 to 18, 20 to 22 at every bound that the document names. */
public final class WallBoundsTest {
    private static final int MIN = Scenes.MIN, MAX = Scenes.MAX, NONE = Checks.NONE;
    private static final int PLAIN = Scenes.PLAIN, SLOGAN = Scenes.SLOGAN, STRUCK = Scenes.STRUCK;
    private static final int LONG = Scenes.LONG, SHORT = Scenes.SHORT, LAST = Scenes.LAST_A_YEAR_BEFORE;
    private static final int ONE_LAYER = Scenes.ONE_LAYER, THREE_LAYERS = Scenes.THREE_LAYERS;
    private static final int NO_LAYERS = Scenes.NO_LAYERS, UNTOUCHED = Scenes.UNTOUCHED;
    private static final int ALL = 32767;

    public static void main(String[] args) {
        see();
        seeChanges();
        seeAll();
        seen();
        lack();
        lackAtSlots();
        lackMostAndLeast();
        reading();
        readingOfNone();
        rivals();
        bare();
        layerTold();
        faded();
        fadedMost();
        Checks.finish();
    }

    /** Promise 14. */
    private static void see() {
        new Edge("14: see(line, 0, 7, 1)", Scenes::lived, (x, line) -> x.see(line, 0, 7, 1))
                .takes(0, 3).takes(3, 3).bad(Scenes.noLine());
        new Edge("14: see(0, slot, 7, 3)", Scenes::lived, (x, slot) -> x.see(0, slot, 7, 3))
                .takes(0, 3).takes(9, 3).finds(Checks.BEYOND, Scenes.noSlot());
        new Edge("14: see(0, 4, cells, 1)", Scenes::lived, (x, cells) -> x.see(0, 4, cells, 1))
                .leaves(0, 0).leaves(1, 0).takes(2, 1).takes(16384, 1).takes(ALL, 13).bad(Scenes.noBits());
        new Edge("14: see(0, 4, 7, v)", Scenes::lived, (x, v) -> x.see(0, 4, 7, v))
                .takes(0, 3).takes(1, 1).takes(2, 2).takes(3, 3).takes(4, 3).bad(MIN, -1, 5, MAX);
        new Edge("14: not known still, see(3, slot, ALL, 4)", Scenes::lived, (x, slot) -> x.see(3, slot, ALL, 4))
                .leaves(0, 0).leaves(9, 0);
        new Edge("14: BAD ahead of BEYOND, see(line, 10, 1, 1)", Scenes::lived, (x, line) -> x.see(line, 10, 1, 1))
                .bad(Scenes.noLine());
        new Edge("14: BAD ahead of BEYOND, see(0, -1, cells, 1)", Scenes::lived, (x, cells) -> x.see(0, -1, cells, 1))
                .bad(Scenes.noBits());
        new Edge("14: BAD ahead of BEYOND, see(0, 10, 1, v)", Scenes::lived, (x, v) -> x.see(0, 10, 1, v))
                .bad(MIN, -1, 5, MAX);
        Cases.finds("14: BEYOND with no CELLS, too", Scenes::lived, x -> x.see(0, 10, 0, 1), Checks.BEYOND);
    }

    /** Promise 14: from each that may be SEEN to each, in the first and the last CELL alone. */
    private static void seeChanges() {
        for (int was = 0; was <= 4; was++) {
            for (int v = 0; v <= 4; v++) {
                GhostSigns x = new GhostSigns();
                x.see(3, 9, ALL, was);
                Checks.due("14: " + was + " becomes " + v, x.see(3, 9, 16385, v), was == v ? 0 : 2);
                Checks.due("14: the first CELL", x.seen(3, 9, 0), v);
                Checks.due("14: the last CELL", x.seen(3, 9, 14), v);
                Checks.due("14: the next CELL stays", x.seen(3, 9, 1), was);
                Checks.due("14: the last but one stays", x.seen(3, 9, 13), was);
                Checks.due("14: the SLOT ahead stays", x.seen(3, 8, 14), 4);
                Checks.due("14: the LINE above stays", x.seen(2, 9, 14), 4);
            }
        }
    }

    /** Promises 14, 37: all 600 CELLS are known, and then none. */
    private static void seeAll() {
        GhostSigns x = new GhostSigns();
        for (int i = 0; i < 40; i++) {
            Checks.due("14: all CELLS of a SLOT", x.see(i / 10, i % 10, ALL, i % 4), 15);
            Checks.due("37: CELLS that are known", x.count(2), 15 * (i + 1));
        }
        for (int i = 0; i < 40; i++) {
            Checks.due("14: none of a SLOT", x.see(i / 10, i % 10, ALL, 4), 15);
        }
        Checks.due("37: no CELLS are known", x.count(2), 0);
    }

    /** Promise 15. */
    private static void seen() {
        new Edge("15: seen(line, 9, 0)", Scenes::lived, (x, line) -> x.seen(line, 9, 0))
                .leaves(0, 4).leaves(2, 3).leaves(3, 4).bad(Scenes.noLine());
        new Edge("15: seen(0, slot, 3)", Scenes::lived, (x, slot) -> x.seen(0, slot, 3))
                .leaves(0, 4).leaves(5, 0).leaves(9, 4).finds(Checks.BEYOND, Scenes.noSlot());
        new Edge("15: seen(0, 4, cell)", Scenes::lived, (x, cell) -> x.seen(0, 4, cell))
                .leaves(0, 1).leaves(1, 2).leaves(14, 4).bad(MIN, -1, 15, 31, 32, MAX);
        new Edge("15: BAD ahead of BEYOND, seen(line, 10, 0)", Scenes::lived, (x, line) -> x.seen(line, 10, 0))
                .bad(Scenes.noLine());
        new Edge("15: BAD ahead of BEYOND, seen(0, -1, cell)", Scenes::lived, (x, cell) -> x.seen(0, -1, cell))
                .bad(MIN, -1, 15, MAX);
    }

    /** Promise 16. */
    private static void lack() {
        new Edge("16: lack(line, SHORT, 4, 2)", Scenes::lived, (x, line) -> x.lack(line, SHORT, 4, 2))
                .leaves(0, 2).leaves(3, 0).bad(Scenes.noLine());
        new Edge("16: lack(3, word, 0, 1)", Scenes::lived, (x, word) -> x.lack(3, word, 0, 1))
                .leaves(0, 0).leaves(LAST, 0).bad(Scenes.noWord()).finds(Checks.NOTHING, STRUCK);
        new Edge("16: lack(0, SHORT, 4, colour)", Scenes::lived, (x, colour) -> x.lack(0, SHORT, 4, colour))
                .leaves(1, 1).leaves(2, 2).leaves(3, 3).bad(Scenes.noColour());
        new Edge("16: NOTHING ahead of BEYOND, lack(0, STRUCK, slot, 1)", Scenes::lived,
                (x, slot) -> x.lack(0, STRUCK, slot, 1)).finds(Checks.NOTHING, Scenes.noSlot());
        Cases.finds("16: NOTHING ahead of NONE", Scenes::lived, x -> x.lack(0, STRUCK, 0, 1), Checks.NOTHING);
        Cases.finds("16: BEYOND ahead of NONE", Scenes::lived, x -> x.lack(0, SHORT, 10, 1), Checks.BEYOND);
        Cases.bad("16: BAD ahead of NOTHING, colour", Scenes::lived, x -> x.lack(0, STRUCK, 0, 4));
        Cases.bad("16: BAD ahead of NOTHING, LINE", Scenes::lived, x -> x.lack(4, STRUCK, 0, 1));
        Cases.bad("16: BAD ahead of BEYOND, colour", Scenes::lived, x -> x.lack(0, SHORT, 10, 0));
        Cases.bad("16: BAD ahead of BEYOND, WORD", Scenes::lived, x -> x.lack(0, Scenes.EVER, 10, 1));
        Cases.bad("16: BAD ahead of BEYOND, LINE", Scenes::lived, x -> x.lack(-1, SHORT, 10, 1));
    }

    /** Promise 16: all of the WORD on the LINE, by its length. */
    private static void lackAtSlots() {
        String letters = "zzzzzzzz";
        for (int length = 1; length <= 8; length++) {
            String text = letters.substring(0, length);
            new Edge("16: " + length + " LETTERS AT a SLOT", () -> oneWord(text), (x, slot) -> x.lack(0, 0, slot, 1))
                    .leaves(0, 0).leaves(10 - length, 0).finds(Checks.BEYOND, 11 - length)
                    .finds(Checks.BEYOND, Scenes.noSlot());
        }
    }

    /** WORD 0 is the text; the letter z has all STROKES. */
    private static GhostSigns oneWord(String text) {
        GhostSigns x = new GhostSigns();
        x.letter('z', ALL);
        Checks.word(x, text);
        return x;
    }

    /** Promise 16: no LACK, all cells, and one CELL that is not the WORD's. */
    private static void lackMostAndLeast() {
        GhostSigns x = oneWord("zzzzzzzz");
        for (int slot = 0; slot < 10; slot++) {
            x.see(0, slot, ALL, 0);
        }
        Checks.due("16: all cells are bare", x.lack(0, 0, 1, 2), 120);
        for (int slot = 1; slot <= 8; slot++) {
            x.see(0, slot, ALL, 2);
        }
        Checks.due("16: all cells are in that colour", x.lack(0, 0, 1, 2), 0);
        Checks.due("16: a SLOT too low", x.lack(0, 0, 0, 2), NONE);
        Checks.due("16: a SLOT too high", x.lack(0, 0, 2, 2), NONE);
        Checks.due("16: in another colour", x.lack(0, 0, 1, 1), 120);
        x.see(0, 0, 1, 2);
        Checks.due("16: a CELL in the SLOT ahead of it", x.lack(0, 0, 1, 2), NONE);
        x.see(0, 0, 1, 4);
        x.see(0, 9, 16384, 2);
        Checks.due("16: a CELL in the SLOT behind it", x.lack(0, 0, 1, 2), NONE);
        x.see(0, 9, 16384, 4);
        x.letter('z', ALL - 1);
        Checks.due("16: a CELL that is no stroke", x.lack(0, 0, 1, 2), NONE);
        x.letter('z', 0);
        Checks.due("16: no STROKES, in that colour", x.lack(0, 0, 1, 2), NONE);
        Checks.due("16: no STROKES, in another", x.lack(0, 0, 1, 1), 0);
    }

    /** Promise 17. */
    private static void reading() {
        new Edge("17: reading(line, 2)", Scenes::lived, (x, line) -> x.reading(line, 2))
                .takes(0, PLAIN).takes(3, PLAIN).bad(Scenes.noLine());
        new Edge("17: reading(0, colour)", Scenes::lived, (x, colour) -> x.reading(0, colour))
                .takes(1, SLOGAN).takes(3, PLAIN).bad(Scenes.noColour());
        Cases.bad("17: both", Scenes::lived, x -> x.reading(4, 0));
        GhostSigns x = new GhostSigns();
        x.letter('a', 1);
        for (int i = 0; i < 16; i++) {
            Checks.word(x, i < 15 ? "b" : "a");
        }
        x.see(0, 9, 1, 1);
        Checks.due("17: the last WORD", x.reading(0, 1), 15);
        Checks.due("17: in the last SLOT", x.asked(), 9);
        x.see(0, 9, 1, 4);
        Checks.due("17: the first WORD", x.reading(0, 1), 0);
        Checks.due("17: in the first SLOT", x.asked(), 0);
        x.letter('b', 2);
        for (int slot = 0; slot < 9; slot++) {
            x.see(0, slot, 3, 0);
        }
        Checks.due("17: the least WORD of those with no LACK", x.reading(0, 1), 0);
        Checks.due("17: in the only SLOT without LACK", x.asked(), 9);
        x.see(0, 9, 2, 0);
        Checks.due("17: a later WORD with less LACK", x.reading(0, 1), 15);
    }

    /** Promise 17: none can be there; asked() stays. */
    private static void readingOfNone() {
        Cases.leaves("17: no WORDS", GhostSigns::new, x -> x.reading(0, 1), NONE);
        Cases.leaves("17: none can be there", WallBoundsTest::nowhere, x -> x.reading(ONE_LAYER, 1), NONE);
        Cases.leaves("18: none can be there", WallBoundsTest::nowhere, x -> x.rivals(ONE_LAYER, 1), 0);
        GhostSigns x = Scenes.words(1);
        Checks.due("17: one WORD", x.reading(0, 1), 0);
        Checks.due("18: its SLOTS", x.rivals(0, 1), 10);
        x.strike(0);
        Checks.due("17: it is STRUCK", x.reading(0, 1), NONE);
        Checks.due("18: it is STRUCK", x.rivals(0, 1), 0);
    }

    /** lived(), but colour 1 is SEEN at both ends of a LINE, where no WORD reaches. */
    private static GhostSigns nowhere() {
        GhostSigns x = Scenes.lived();
        x.see(ONE_LAYER, 0, 1, 1);
        x.see(ONE_LAYER, 9, 1, 1);
        return x;
    }

    /** Promise 18. */
    private static void rivals() {
        int places = 9 + 10 + 10 + 9 + 3 + 10 + 10 + 10;
        new Edge("18: rivals(line, 1)", Scenes::lived, (x, line) -> x.rivals(line, 1))
                .leaves(0, 4).leaves(3, places).bad(Scenes.noLine());
        new Edge("18: rivals(3, colour)", Scenes::lived, (x, colour) -> x.rivals(3, colour))
                .leaves(1, places).leaves(3, places).bad(Scenes.noColour());
        Cases.leaves("18: no WORDS", GhostSigns::new, x -> x.rivals(0, 1), 0);
        Cases.leaves("18: as many as there can be", () -> Scenes.words(16), x -> x.rivals(3, 3), 160);
        Cases.leaves("18: 8 LETTERS", () -> oneWord("zzzzzzzz"), x -> x.rivals(0, 1), 3);
    }

    /** Promise 20. */
    private static void bare() {
        new Edge("20: bare(line)", Scenes::lived, (x, line) -> x.bare(line))
                .takes(ONE_LAYER, 1).takes(THREE_LAYERS, 3).leaves(NO_LAYERS, 0).leaves(UNTOUCHED, 0)
                .bad(Scenes.noLine());
        GhostSigns x = Scenes.lived();
        x.bare(THREE_LAYERS);
        Checks.due("20: it has none", x.layerTold(THREE_LAYERS, 0, 0), NONE);
        Checks.due("20: the others stay", x.layerTold(ONE_LAYER, 0, 0), PLAIN);
        Checks.due("20: none the second time", x.bare(THREE_LAYERS), 0);
    }

    /** Promise 21. */
    private static void layerTold() {
        new Edge("21: layerTold(line, 0, 2)", Scenes::lived, (x, line) -> x.layerTold(line, 0, 2))
                .leaves(0, 1).leaves(1, 1).leaves(2, NONE).leaves(3, NONE).bad(Scenes.noLine());
        new Edge("21: layerTold(THREE_LAYERS, i, 0)", Scenes::lived, (x, i) -> x.layerTold(THREE_LAYERS, i, 0))
                .leaves(0, Scenes.FIRM).leaves(1, LONG).leaves(2, SLOGAN)
                .leaves(MIN, NONE).leaves(-1, NONE).leaves(3, NONE).leaves(MAX, NONE);
        new Edge("21: layerTold(ONE_LAYER, i, 1)", Scenes::lived, (x, i) -> x.layerTold(ONE_LAYER, i, 1))
                .leaves(0, 4).leaves(-1, NONE).leaves(1, NONE);
        new Edge("21: layerTold(THREE_LAYERS, 2, what)", Scenes::lived, (x, what) -> x.layerTold(THREE_LAYERS, 2, what))
                .leaves(0, SLOGAN).leaves(1, 8).leaves(2, 3).bad(MIN, -1, 3, MAX);
        new Edge("21: BAD ahead of NONE, layerTold(NO_LAYERS, 0, what)", Scenes::lived,
                (x, what) -> x.layerTold(NO_LAYERS, 0, what)).leaves(0, NONE).leaves(2, NONE).bad(MIN, -1, 3, MAX);
        new Edge("21: BAD ahead of NONE, layerTold(line, 3, 0)", Scenes::lived, (x, line) -> x.layerTold(line, 3, 0))
                .bad(Scenes.noLine());
    }

    /** Promise 22. */
    private static void faded() {
        new Edge("22: faded(line)", Scenes::lived, (x, line) -> x.faded(line))
                .leaves(ONE_LAYER, NONE).leaves(THREE_LAYERS, 0).leaves(NO_LAYERS, NONE).leaves(UNTOUCHED, 0)
                .bad(Scenes.noLine());
        for (int i = 0; i < 40; i++) {
            GhostSigns x = new GhostSigns();
            x.see(i / 10, i % 10, ALL, 0);
            Checks.due("22: bare, no LAYERS", x.faded(i / 10), 0);
            x.see(i / 10, i % 10, i % 2 == 0 ? 1 : 16384, 1 + i % 3);
            Checks.due("22: a colour, no LAYERS", x.faded(i / 10), NONE);
            Checks.due("22: another LINE", x.faded(3 - i / 10), 0);
        }
    }

    /** Promise 22: three LAYERS of 8 LETTERS with all STROKES, of which each or none has faded. */
    private static void fadedMost() {
        int[] due = {3 * 120, 2 * 120, 120, 0, 0};
        for (int v = 0; v <= 4; v++) {
            GhostSigns x = oneWord("zzzzzzzz");
            for (int colour = 1; colour <= 3; colour++) {
                x.layer(2, 0, 1, colour);
            }
            for (int slot = 1; slot <= 8; slot++) {
                x.see(2, slot, ALL, v);
            }
            Checks.due("22: SEEN " + v + " all over", x.faded(2), due[v]);
            x.see(2, 0, ALL, 0);
            x.see(2, 9, ALL, 0);
            Checks.due("22: bare beside them", x.faded(2), due[v]);
            x.see(2, 9, 1, 3);
            Checks.due("22: a colour beside them", x.faded(2), NONE);
        }
    }
}
