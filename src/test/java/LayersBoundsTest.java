/** Promises 19 and 23 at every bound that the document names: LAYERS, and TWO through one another. */
public final class LayersBoundsTest {
    private static final int MIN = Scenes.MIN, MAX = Scenes.MAX, NONE = Checks.NONE;
    private static final int STRUCK = Scenes.STRUCK, LONG = Scenes.LONG, SHORT = Scenes.SHORT;
    private static final int ONE_LAYER = Scenes.ONE_LAYER, THREE_LAYERS = Scenes.THREE_LAYERS;
    private static final int NO_LAYERS = Scenes.NO_LAYERS, UNTOUCHED = Scenes.UNTOUCHED;
    /** Pairs of unlike WORDS that lived() has for a LINE of which nothing is known. */
    private static final int PAIRS = 71 * 71 - (81 + 100 + 100 + 81 + 9 + 100 + 100 + 100);

    public static void main(String[] args) {
        layer();
        layerAtSlots();
        layersAtMost();
        layerInOrder();
        two();
        twoTries();
        twoMostTries();
        twoOfNone();
        twoStays();
        Checks.finish();
    }

    /** Promise 19. */
    private static void layer() {
        new Edge("19: layer(line, SHORT, 0, 3)", Scenes::lived, (x, line) -> x.layer(line, SHORT, 0, 3))
                .takes(0, 2).takes(2, 1).takes(3, 1).full(THREE_LAYERS).bad(Scenes.noLine());
        new Edge("19: layer(3, word, 0, 1)", Scenes::lived, (x, word) -> x.layer(3, word, 0, 1))
                .takes(0, 1).takes(Scenes.EVER - 1, 1).bad(Scenes.noWord()).finds(Checks.NOTHING, STRUCK);
        new Edge("19: layer(ONE_LAYER, SHORT, 0, colour)", Scenes::lived,
                (x, colour) -> x.layer(ONE_LAYER, SHORT, 0, colour))
                .leaves(1, Checks.STATE).takes(2, 2).takes(3, 2).bad(Scenes.noColour());
        Cases.bad("19: no WORDS", GhostSigns::new, x -> x.layer(0, 0, 0, 1));
    }

    /** Promise 19: all of the WORD on the LINE, by its length. */
    private static void layerAtSlots() {
        new Edge("19: 1 LETTER AT a SLOT", Scenes::lived, (x, slot) -> x.layer(UNTOUCHED, SHORT, slot, 1))
                .takes(0, 1).takes(9, 1).finds(Checks.BEYOND, Scenes.noSlot());
        new Edge("19: 2 LETTERS AT a SLOT", Scenes::lived, (x, slot) -> x.layer(UNTOUCHED, Scenes.PLAIN, slot, 1))
                .takes(0, 1).takes(8, 1).finds(Checks.BEYOND, 9).finds(Checks.BEYOND, Scenes.noSlot());
        new Edge("19: 8 LETTERS AT a SLOT", Scenes::lived, (x, slot) -> x.layer(UNTOUCHED, LONG, slot, 1))
                .takes(0, 1).takes(2, 1).finds(Checks.BEYOND, 3, 9).finds(Checks.BEYOND, Scenes.noSlot());
    }

    /** Terms 2: three LAYERS at most, from the lowest up, no two in one colour; on each LINE. */
    private static void layersAtMost() {
        GhostSigns x = Scenes.words(1);
        for (int line = 0; line < 4; line++) {
            for (int i = 0; i < 3; i++) {
                int colour = 1 + (i + line) % 3;
                Checks.due("19: LAYER " + i, x.layer(line, 0, line + i, colour), i + 1);
                Checks.due("19: it is the uppermost", x.layerTold(line, i, 2), colour);
                Checks.due("19: its SLOT", x.layerTold(line, i, 1), line + i);
                Checks.due("19: in all", x.count(3), 3 * line + i + 1);
                if (i < 2) {
                    Checks.due("19: its colour again", x.layer(line, 0, 0, colour), Checks.STATE);
                }
            }
            for (int colour = 1; colour <= 3; colour++) {
                Checks.due("19: a fourth", x.layer(line, 0, 0, colour), Checks.FULL);
            }
        }
        Checks.due("37: as many LAYERS as there may be", x.count(3), 12);
    }

    /** Promise 19: of two refusals that both fit, the one that comes first. */
    private static void layerInOrder() {
        Cases.leaves("19: STATE ahead of NOTHING", Scenes::lived, x -> x.layer(ONE_LAYER, STRUCK, 0, 1), Checks.STATE);
        Cases.leaves("19: STATE ahead of BEYOND", Scenes::lived, x -> x.layer(ONE_LAYER, SHORT, 10, 1), Checks.STATE);
        Cases.finds("19: NOTHING ahead of BEYOND", Scenes::lived,
                x -> x.layer(ONE_LAYER, STRUCK, 10, 2), Checks.NOTHING);
        Cases.full("19: FULL ahead of STATE", Scenes::lived, x -> x.layer(THREE_LAYERS, SHORT, 0, 1));
        Cases.full("19: FULL ahead of NOTHING", Scenes::lived, x -> x.layer(THREE_LAYERS, STRUCK, 0, 1));
        Cases.full("19: FULL ahead of BEYOND", Scenes::lived, x -> x.layer(THREE_LAYERS, SHORT, -1, 1));
        Cases.bad("19: BAD ahead of FULL, colour", Scenes::lived, x -> x.layer(THREE_LAYERS, SHORT, 0, 4));
        Cases.bad("19: BAD ahead of FULL, WORD", Scenes::lived, x -> x.layer(THREE_LAYERS, Scenes.EVER, 0, 1));
        Cases.bad("19: BAD ahead of STATE", Scenes::lived, x -> x.layer(ONE_LAYER, -1, 0, 1));
        Cases.bad("19: BAD ahead of NOTHING", Scenes::lived, x -> x.layer(UNTOUCHED, STRUCK, 0, 0));
        Cases.bad("19: BAD ahead of BEYOND", Scenes::lived, x -> x.layer(UNTOUCHED, SHORT, 10, 4));
    }

    /** Promise 23: each number of the call by itself. */
    private static void two() {
        new Edge("23: two(line, 1, 2, 20000)", Scenes::lived, (x, line) -> x.two(line, 1, 2, 20000))
                .takes(ONE_LAYER, 0).takes(THREE_LAYERS, 0).leaves(NO_LAYERS, NONE).takes(UNTOUCHED, 0)
                .bad(Scenes.noLine());
        new Edge("23: two(3, a, 2, 20000)", Scenes::lived, (x, a) -> x.two(3, a, 2, 20000))
                .takes(1, 0).takes(3, 0).bad(2).bad(Scenes.noColour());
        new Edge("23: two(3, 2, b, 20000)", Scenes::lived, (x, b) -> x.two(3, 2, b, 20000))
                .takes(1, 0).takes(3, 0).bad(2).bad(Scenes.noColour());
        new Edge("23: two(3, 1, 2, n)", Scenes::lived, (x, n) -> x.two(3, 1, 2, n))
                .takes(PAIRS, 0).takes(20000, 0).leaves(PAIRS - 1, Checks.SPENT).leaves(1, Checks.SPENT)
                .bad(MIN, -1, 0, 20001, MAX);
        new Edge("23: BAD ahead of SPENT, alike", Scenes::lived, (x, a) -> x.two(3, a, a, 1)).bad(1, 2, 3);
        Cases.bad("23: BAD ahead of SPENT, LINE", Scenes::lived, x -> x.two(4, 1, 2, 1));
        Cases.bad("23: BAD ahead of NONE, n", Scenes::lived, x -> x.two(NO_LAYERS, 1, 2, 20001));
        Cases.leaves("23: SPENT, its LAYERS stay", Scenes::lived, x -> x.two(THREE_LAYERS, 1, 2, 1), Checks.SPENT);
        Cases.leaves("23: SPENT, though none FIT", Scenes::lived, x -> x.two(NO_LAYERS, 1, 2, 1), Checks.SPENT);
    }

    /** WORDS "a" of CELL 0 and as many "b" of CELL 1, each SEEN once in a colour of its own. */
    private static GhostSigns onePlaceEach(int many) {
        GhostSigns x = new GhostSigns();
        x.letter('a', 1);
        x.letter('b', 2);
        Checks.word(x, "a");
        for (int i = 0; i < many; i++) {
            Checks.word(x, "b");
        }
        x.see(0, 5, 1, 1);
        x.see(0, 5, 2, 2);
        return x;
    }

    /** Promise 23: as few TRIES as there can be. */
    private static void twoTries() {
        Cases.takes("23: one pair, one TRY", () -> onePlaceEach(1), x -> x.two(0, 1, 2, 1), 0);
        Cases.leaves("23: two pairs, one TRY", () -> onePlaceEach(2), x -> x.two(0, 1, 2, 1), Checks.SPENT);
        Cases.takes("23: two pairs, two TRIES", () -> onePlaceEach(2), x -> x.two(0, 1, 2, 2), 0);
        Cases.leaves("23: 15 pairs, 14 TRIES", () -> onePlaceEach(15), x -> x.two(0, 2, 1, 14), Checks.SPENT);
        Cases.takes("23: 15 pairs, 15 TRIES", () -> onePlaceEach(15), x -> x.two(0, 2, 1, 15), 0);
        Cases.leaves("23: no pair, one TRY", () -> onePlaceEach(0), x -> x.two(0, 1, 2, 1), NONE);
        GhostSigns x = onePlaceEach(15);
        x.strike(15);
        Checks.due("23: no TRY of a STRUCK WORD", x.two(0, 1, 2, 14), 0);
    }

    /** Promise 23: no WORDS have 20000 pairs, but some have 19982 and some 20160. */
    private static void twoMostTries() {
        new Edge("23: 19982 pairs, n", LayersBoundsTest::almostTooMany, (x, n) -> x.two(0, 1, 2, n))
                .takes(20000, 0).takes(19982, 0).leaves(19981, Checks.SPENT);
        new Edge("23: 20160 pairs, n", LayersBoundsTest::tooMany, (x, n) -> x.two(0, 1, 2, n))
                .leaves(20000, Checks.SPENT).bad(20160);
        Cases.leaves("23: 24000 pairs", () -> Scenes.words(16), x -> x.two(3, 3, 1, 20000), Checks.SPENT);
    }

    private static GhostSigns almostTooMany() {
        GhostSigns x = Scenes.words(2);
        x.sheet(3, 2);
        for (int i = 0; i < 14; i++) {
            x.word(3);
        }
        return x;
    }

    private static GhostSigns tooMany() {
        GhostSigns x = Scenes.words(14);
        x.sheet(3, 4);
        x.word(3);
        return x;
    }

    /** Promise 23: none FIT. */
    private static void twoOfNone() {
        Cases.leaves("23: no WORDS", GhostSigns::new, x -> x.two(0, 1, 2, 1), NONE);
        Cases.leaves("23: one WORD is not another", () -> Scenes.words(1), x -> x.two(0, 1, 2, 1), NONE);
        Cases.takes("23: two WORDS alike are two", () -> Scenes.words(2), x -> x.two(0, 1, 2, 200), 0);
        for (int third = 1; third <= 3; third++) {
            int a = third % 3 + 1;
            int b = a % 3 + 1;
            GhostSigns x = Scenes.words(2);
            x.see(0, 9, 16384, third);
            Checks.due("23: a third colour in the last CELL", x.two(0, a, b, 20000), NONE);
            x.see(0, 9, 16384, 0);
            Checks.due("23: bare in the last CELL", x.two(0, a, b, 20000), 0);
        }
        GhostSigns y = onePlaceEach(1);
        y.see(0, 6, 2, 2);
        Checks.due("23: none CAN be there in colour b", y.two(0, 1, 2, 1), NONE);
        Checks.due("23: none CAN be there in colour a", y.two(0, 2, 1, 1), NONE);
    }

    /** Promise 23: what it finds are the LAYERS then, whatever was there; else those stay. */
    private static void twoStays() {
        GhostSigns x = onePlaceEach(1);
        for (int colour = 1; colour <= 3; colour++) {
            x.layer(0, 1, colour, colour);
        }
        x.layer(1, 0, 0, 1);
        x.see(0, 0, 1, 3);
        Checks.due("23: a third colour", x.two(0, 1, 2, 1), NONE);
        Checks.due("23: its LAYERS stay", x.count(3), 4);
        Checks.due("23: the uppermost stays", x.layerTold(0, 2, 2), 3);
        x.see(0, 0, 1, 4);
        Checks.due("23: one pair", x.two(0, 1, 2, 1), 0);
        Checks.due("23: two LAYERS, and that of another LINE", x.count(3), 3);
        int[] due = {0, 5, 1, 1, 5, 2, NONE, NONE, NONE};
        for (int i = 0; i < due.length; i++) {
            Checks.due("23: LAYER " + i / 3 + ", " + i % 3, x.layerTold(0, i / 3, i % 3), due[i]);
        }
        Checks.due("23: b first, the same pair", x.two(0, 2, 1, 1), 0);
        Checks.due("23: then b is beneath", x.layerTold(0, 0, 2), 2);
    }
}
