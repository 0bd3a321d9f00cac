/** Promises 14 to 23. */
public final class WallTest {
    private static final int A = 0b111, B = 0b1010, C = 0b10000;

    public static void main(String[] args) {
        see();
        seen();
        lack();
        reading();
        rivals();
        layer();
        bare();
        layerTold();
        faded();
        fadedOfThree();
        two();
        twoInOrder();
        twoTries();
        twoAtTheEnds();
        Checks.finish();
    }

    /** Words 0 "ab", 1 "ba", 2 "c" and 3 "aa", which is struck. */
    private static GhostSigns withWords() {
        GhostSigns x = new GhostSigns();
        x.letter('a', A);
        x.letter('b', B);
        x.letter('c', C);
        Checks.word(x, "ab");
        Checks.word(x, "ba");
        Checks.word(x, "c");
        Checks.word(x, "aa");
        x.strike(3);
        return x;
    }

    /** Promise 14. */
    private static void see() {
        GhostSigns x = new GhostSigns();
        Checks.due("all", x.see(0, 0, 32767, 1), 15);
        Checks.due("alike", x.see(0, 0, 32767, 1), 0);
        Checks.due("others", x.see(0, 0, 6, 2), 2);
        Checks.due("some others", x.see(0, 0, 7, 2), 1);
        Checks.due("bare", x.see(0, 0, 12, 0), 2);
        Checks.due("not known again", x.see(0, 0, 15, 4), 4);
        Checks.due("not known still", x.see(0, 0, 31, 4), 1);
        Checks.due("no cells", x.see(3, 9, 0, 3), 0);
        Checks.due("known", x.count(2), 10);
        Checks.due("line 4", x.see(4, 0, 1, 1), Checks.BAD);
        Checks.due("line -1", x.see(-1, 0, 1, 1), Checks.BAD);
        Checks.due("bits 32768", x.see(0, 0, 32768, 1), Checks.BAD);
        Checks.due("bits -1", x.see(0, 0, -1, 1), Checks.BAD);
        Checks.due("v 5", x.see(0, 0, 1, 5), Checks.BAD);
        Checks.due("v -1", x.see(0, 0, 1, -1), Checks.BAD);
        Checks.due("BAD ahead of BEYOND", x.see(0, 10, 1, 5), Checks.BAD);
        Checks.found(x, "slot 10", () -> x.see(0, 10, 1, 1), Checks.BEYOND);
        Checks.found(x, "slot -1", () -> x.see(0, -1, 1, 1), Checks.BEYOND);
        Checks.due("known still", x.count(2), 10);
    }

    /** Promise 15. */
    private static void seen() {
        GhostSigns x = new GhostSigns();
        x.see(1, 9, 1, 0);
        x.see(1, 9, 2, 1);
        x.see(1, 9, 4, 2);
        x.see(1, 9, 16384, 3);
        Checks.due("bare", x.seen(1, 9, 0), 0);
        Checks.due("colour 1", x.seen(1, 9, 1), 1);
        Checks.due("colour 2", x.seen(1, 9, 2), 2);
        Checks.due("not known", x.seen(1, 9, 3), 4);
        Checks.due("colour 3", x.seen(1, 9, 14), 3);
        Checks.due("another slot", x.seen(1, 8, 0), 4);
        Checks.due("another line", x.seen(0, 9, 0), 4);
        Checks.due("line 4", x.seen(4, 0, 0), Checks.BAD);
        Checks.due("line -1", x.seen(-1, 0, 0), Checks.BAD);
        Checks.due("cell 15", x.seen(0, 0, 15), Checks.BAD);
        Checks.due("cell -1", x.seen(0, 0, -1), Checks.BAD);
        Checks.due("BAD ahead of BEYOND", x.seen(0, 10, 15), Checks.BAD);
        Checks.found(x, "slot 10", () -> x.seen(0, 10, 0), Checks.BEYOND);
        Checks.found(x, "slot -1", () -> x.seen(0, -1, 0), Checks.BEYOND);
    }

    /** Promise 16. */
    private static void lack() {
        GhostSigns x = withWords();
        Checks.due("nothing known", x.lack(0, 0, 8, 1), 0);
        x.see(0, 4, 1, 1);
        x.see(0, 4, 2, 0);
        x.see(0, 4, 4, 2);
        x.see(0, 4, 16384, 0);
        Checks.due("bare and another colour lack", x.lack(0, 0, 4, 1), 2);
        Checks.due("second letter", x.lack(0, 1, 3, 1), 2);
        Checks.due("a cell of the colour is not its own", x.lack(0, 1, 4, 1), Checks.NONE);
        Checks.due("elsewhere on the line", x.lack(0, 0, 5, 1), Checks.NONE);
        Checks.due("in colour 2", x.lack(0, 0, 4, 2), 2);
        Checks.due("in colour 3", x.lack(0, 0, 4, 3), 3);
        Checks.due("on another line", x.lack(1, 1, 4, 1), 0);
        x.see(2, 0, 32767, 0);
        x.see(2, 9, 32767, 3);
        Checks.due("lack in the first slot", x.lack(2, 0, 0, 1), 3);
        Checks.due("lack in the last slot", x.lack(2, 1, 8, 1), 3);
        Checks.due("line 4", x.lack(4, 0, 0, 1), Checks.BAD);
        Checks.due("word 4", x.lack(0, 4, 0, 1), Checks.BAD);
        Checks.due("word -1", x.lack(0, -1, 0, 1), Checks.BAD);
        Checks.due("colour 0", x.lack(0, 0, 0, 0), Checks.BAD);
        Checks.due("colour 4", x.lack(0, 0, 0, 4), Checks.BAD);
        Checks.due("BAD ahead of NOTHING", x.lack(0, 3, 0, 4), Checks.BAD);
        Checks.found(x, "struck, ahead of BEYOND", () -> x.lack(0, 3, 10, 1), Checks.NOTHING);
        Checks.found(x, "not all of it", () -> x.lack(0, 0, 9, 1), Checks.BEYOND);
        Checks.found(x, "slot -1", () -> x.lack(0, 0, -1, 1), Checks.BEYOND);
        Checks.found(x, "slot max", () -> x.lack(0, 0, Integer.MAX_VALUE, 1), Checks.BEYOND);
        Checks.due("one letter in the last slot", x.lack(0, 2, 9, 2), Checks.NONE);
        Checks.due("one letter in the last slot of another line", x.lack(1, 2, 9, 2), 0);
    }

    /** Promise 17. */
    private static void reading() {
        GhostSigns x = withWords();
        x.see(0, 4, 2, 1);
        Checks.due("the least word", x.reading(0, 1), 0);
        Checks.due("then the least slot", x.asked(), 3);
        x.see(0, 3, 1, 0);
        Checks.due("the least lack", x.reading(0, 1), 0);
        Checks.due("at the slot with the least lack", x.asked(), 4);
        x.see(0, 4, 4, 0);
        Checks.due("another word with less lack", x.reading(0, 1), 1);
        Checks.due("its slot", x.asked(), 4);
        x.see(0, 4, 16, 1);
        Checks.due("none can be there", x.reading(0, 1), Checks.NONE);
        Checks.due("NONE is not told by asked", x.asked(), 4);
        Checks.due("another colour", x.reading(0, 2), 0);
        Checks.due("its slot", x.asked(), 0);
        x.strike(0);
        Checks.due("without the struck", x.reading(1, 1), 1);
        Checks.due("line 4", x.reading(4, 1), Checks.BAD);
        Checks.due("line -1", x.reading(-1, 1), Checks.BAD);
        Checks.due("colour 0", x.reading(0, 0), Checks.BAD);
        Checks.due("colour 4", x.reading(0, 4), Checks.BAD);
        Checks.due("no words", new GhostSigns().reading(0, 1), Checks.NONE);
    }

    /** Promise 18. */
    private static void rivals() {
        GhostSigns x = withWords();
        Checks.due("all slots of all words", x.rivals(0, 1), 9 + 9 + 10);
        x.see(0, 4, 2, 1);
        Checks.due("two words in two slots each", x.rivals(0, 1), 4);
        x.see(0, 3, 1, 0);
        Checks.due("those with the least lack", x.rivals(0, 1), 3);
        x.see(0, 4, 16, 1);
        Checks.due("none can be there", x.rivals(0, 1), 0);
        Checks.due("rivals do not change asked", x.asked(), 0);
        Checks.due("line 4", x.rivals(4, 1), Checks.BAD);
        Checks.due("colour 0", x.rivals(0, 0), Checks.BAD);
        Checks.due("colour 4", x.rivals(0, 4), Checks.BAD);
    }

    /** Promise 19. */
    private static void layer() {
        GhostSigns x = withWords();
        Checks.due("line 4", x.layer(4, 0, 0, 1), Checks.BAD);
        Checks.due("word 4", x.layer(0, 4, 0, 1), Checks.BAD);
        Checks.due("colour 0", x.layer(0, 0, 0, 0), Checks.BAD);
        Checks.due("colour 4", x.layer(0, 0, 0, 4), Checks.BAD);
        Checks.found(x, "struck", () -> x.layer(0, 3, 10, 1), Checks.NOTHING);
        Checks.found(x, "not all of it", () -> x.layer(0, 0, 9, 1), Checks.BEYOND);
        Checks.found(x, "slot -1", () -> x.layer(0, 0, -1, 1), Checks.BEYOND);
        Checks.found(x, "slot min", () -> x.layer(0, 0, Integer.MIN_VALUE, 1), Checks.BEYOND);
        x.see(0, 0, 32767, 2);
        Checks.due("one that can't be there may be a layer", x.layer(0, 0, 8, 2), 1);
        Checks.due("STATE ahead of NOTHING", x.layer(0, 3, 0, 2), Checks.STATE);
        Checks.due("STATE ahead of BEYOND", x.layer(0, 0, 9, 2), Checks.STATE);
        Checks.due("BAD ahead of STATE", x.layer(0, 4, 0, 2), Checks.BAD);
        Checks.due("the same word in another colour", x.layer(0, 0, 8, 1), 2);
        Checks.due("third", x.layer(0, 2, 9, 3), 3);
        Checks.due("FULL ahead of STATE", x.layer(0, 2, 9, 3), Checks.FULL);
        Checks.due("BAD ahead of FULL", x.layer(0, 2, 9, 4), Checks.BAD);
        Checks.due("another line", x.layer(3, 2, 9, 3), 1);
        Checks.due("in all", x.count(3), 4);
    }

    /** Promise 20. */
    private static void bare() {
        GhostSigns x = withWords();
        Checks.due("none", x.bare(0), 0);
        x.layer(0, 0, 0, 1);
        x.layer(0, 0, 0, 2);
        x.layer(1, 0, 0, 2);
        Checks.due("two", x.bare(0), 2);
        Checks.due("none then", x.bare(0), 0);
        Checks.due("another line keeps its own", x.count(3), 1);
        Checks.due("a colour is free again", x.layer(0, 1, 0, 1), 1);
        Checks.due("line 4", x.bare(4), Checks.BAD);
        Checks.due("line -1", x.bare(-1), Checks.BAD);
    }

    /** Promise 21. */
    private static void layerTold() {
        GhostSigns x = withWords();
        x.layer(2, 1, 8, 3);
        x.layer(2, 2, 4, 1);
        int[] lowest = {1, 8, 3};
        int[] upper = {2, 4, 1};
        for (int what = 0; what <= 2; what++) {
            Checks.due("lowest " + what, x.layerTold(2, 0, what), lowest[what]);
            Checks.due("upper " + what, x.layerTold(2, 1, what), upper[what]);
            Checks.due("none " + what, x.layerTold(2, 2, what), Checks.NONE);
        }
        Checks.due("layer -1", x.layerTold(2, -1, 0), Checks.NONE);
        Checks.due("layer max", x.layerTold(2, Integer.MAX_VALUE, 0), Checks.NONE);
        Checks.due("what 3", x.layerTold(2, 0, 3), Checks.BAD);
        Checks.due("what -1", x.layerTold(2, 0, -1), Checks.BAD);
        Checks.due("what 3 of none", x.layerTold(2, 2, 3), Checks.BAD);
        Checks.due("line 4", x.layerTold(4, 0, 0), Checks.BAD);
        Checks.due("line -1", x.layerTold(-1, 0, 0), Checks.BAD);
    }

    /** Promise 22. */
    private static void faded() {
        GhostSigns x = withWords();
        Checks.due("no layers, nothing known", x.faded(0), 0);
        x.see(0, 0, 1, 0);
        Checks.due("no layers, bare", x.faded(0), 0);
        x.layer(0, 0, 0, 1);
        Checks.due("bare where one is", x.faded(0), 1);
        x.see(0, 0, 2, 1);
        Checks.due("its colour", x.faded(0), 1);
        x.see(0, 9, 1, 0);
        Checks.due("bare where none is", x.faded(0), 1);
        x.see(0, 9, 2, 1);
        Checks.due("its colour where it is not", x.faded(0), Checks.NONE);
        x.see(0, 9, 2, 4);
        x.see(0, 0, 4, 2);
        Checks.due("a colour of no layer", x.faded(0), Checks.NONE);
        x.layer(0, 1, 0, 2);
        Checks.due("a colour of a layer that has it not", x.faded(0), Checks.NONE);
        x.see(3, 9, 1, 3);
        Checks.due("colour 3 of no layer in the last slot", x.faded(3), Checks.NONE);
        x.layer(3, 0, 8, 3);
        Checks.due("colour 3 of a layer that has it not", x.faded(3), Checks.NONE);
        x.layer(3, 1, 8, 1);
        Checks.due("a layer in another colour has it", x.faded(3), Checks.NONE);
        Checks.due("line 4", x.faded(4), Checks.BAD);
        Checks.due("line -1", x.faded(-1), Checks.BAD);
    }

    /** Promise 22: three layers that all have one cell. */
    private static void fadedOfThree() {
        int[] due = {3, 2, 1, 0, 0};
        for (int v = 0; v <= 4; v++) {
            GhostSigns x = withWords();
            x.layer(0, 0, 0, 1);
            x.layer(0, 1, 0, 2);
            x.layer(0, 0, 0, 3);
            x.see(0, 0, 2, v);
            Checks.due("three over one another, seen " + v, x.faded(0), due[v]);
        }
    }

    /** Promise 23. */
    private static void two() {
        GhostSigns x = withWords();
        x.see(0, 4, 5, 1);
        x.see(0, 4, 2, 2);
        x.see(0, 3, 5, 0);
        Checks.due("two through one another", x.two(0, 1, 2, 20000), 0);
        layersAre(x, 0, 0, 4, 1, 1, 4, 2);
        x.see(0, 5, 2, 0);
        Checks.due("some must have faded", x.two(0, 1, 2, 20000), 2);
        layersAre(x, 0, 1, 3, 2, 0, 4, 1);
        Checks.due("they fade as told", x.faded(0), 2);
        x.see(1, 0, 2, 2);
        Checks.due("on another line", x.two(1, 1, 2, 20000), 0);
        x.see(2, 0, 1, 3);
        x.layer(2, 0, 0, 3);
        Checks.due("a third colour does not fit", x.two(2, 1, 2, 20000), Checks.NONE);
        Checks.due("its layers stay", x.layerTold(2, 0, 2), 3);
        Checks.due("SPENT", x.two(2, 1, 2, 1), Checks.SPENT);
        Checks.due("its layers stay then, too", x.layerTold(2, 0, 2), 3);
        Checks.due("asked stays", x.asked(), 0);
        Checks.due("line 4", x.two(4, 1, 2, 1), Checks.BAD);
        Checks.due("line -1", x.two(-1, 1, 2, 1), Checks.BAD);
        Checks.due("colour a 0", x.two(0, 0, 2, 1), Checks.BAD);
        Checks.due("colour b 4", x.two(0, 1, 4, 1), Checks.BAD);
        Checks.due("alike", x.two(0, 2, 2, 1), Checks.BAD);
        Checks.due("n 0", x.two(0, 1, 2, 0), Checks.BAD);
        Checks.due("n 20001", x.two(0, 1, 2, 20001), Checks.BAD);
        GhostSigns one = new GhostSigns();
        one.letter('a', A);
        Checks.word(one, "a");
        Checks.due("one word is not two", one.two(0, 1, 2, 1), Checks.NONE);
    }

    private static void layersAre(GhostSigns x, int line, int... told) {
        Checks.due("how many layers", x.layerTold(line, told.length / 3, 0), Checks.NONE);
        for (int i = 0; i < told.length; i++) {
            Checks.due("layer " + i / 3 + ", " + i % 3, x.layerTold(line, i / 3, i % 3), told[i]);
        }
    }

    /** Promise 23: the first with the fewest, a beneath ahead of b beneath. */
    private static void twoInOrder() {
        GhostSigns x = withWords();
        x.layer(0, 2, 5, 3);
        Checks.due("nothing known", x.two(0, 2, 1, 20000), 0);
        layersAre(x, 0, 0, 0, 2, 1, 0, 1);
        x.see(0, 0, 2, 2);
        Checks.due("b must be beneath where a is seen over it", x.two(0, 2, 1, 20000), 0);
        layersAre(x, 0, 1, 0, 1, 0, 0, 2);
        x.see(0, 0, 2, 1);
        x.see(0, 0, 8, 2);
        Checks.due("the same, the colours changed", x.two(0, 1, 2, 20000), 0);
        layersAre(x, 0, 1, 0, 2, 0, 0, 1);
    }

    /** Promise 23: a line that is bare, and one with a third colour, in the first or last slot. */
    private static void twoAtTheEnds() {
        for (int slot = 0; slot < 10; slot += 9) {
            GhostSigns x = new GhostSigns();
            x.letter('a', 1);
            Checks.word(x, "a");
            Checks.word(x, "a");
            x.see(0, slot, 1, 0);
            Checks.due("elsewhere nothing fades", x.two(0, 1, 3, 20000), 0);
            int other = slot == 0 ? 1 : 0;
            layersAre(x, 0, 0, other, 1, 1, other, 3);
            for (int at = 0; at < 10; at++) {
                x.see(0, at, 1, 0);
            }
            Checks.due("two fade anywhere", x.two(0, 1, 3, 20000), 2);
            layersAre(x, 0, 0, 0, 1, 1, 0, 3);
            x.see(0, slot, 16384, 2);
            Checks.due("a third colour", x.two(0, 1, 3, 20000), Checks.NONE);
        }
    }

    /** Promise 23: each pair is one try. */
    private static void twoTries() {
        GhostSigns x = withWords();
        x.strike(2);
        int pairs = 9 * 9 * 2;
        Checks.due("a try too few", x.two(0, 1, 2, pairs - 1), Checks.SPENT);
        Checks.due("no layers then", x.count(3), 0);
        Checks.due("as many tries as pairs", x.two(0, 1, 2, pairs), 0);
        x.see(0, 4, 1, 1);
        int ofA = 2;
        Checks.due("those that can be there are tried", x.two(0, 1, 2, ofA * 9), 0);
        Checks.due("a try too few of these", x.two(0, 1, 2, ofA * 9 - 1), Checks.SPENT);
        GhostSigns y = new GhostSigns();
        Checks.fillWords(y);
        Checks.due("24000 pairs are more than may be tried", y.two(0, 1, 2, 20000), Checks.SPENT);
        y.strike(15);
        Checks.due("21000 pairs, too", y.two(0, 1, 2, 20000), Checks.SPENT);
        y.strike(14);
        Checks.due("18200 pairs", y.two(0, 1, 2, 18200), 0);
    }
}
