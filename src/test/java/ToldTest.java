/** Promises 36 to 40. */
public final class ToldTest {
    public static void main(String[] args) {
        asked();
        count();
        finding();
        findings();
        digest();
        digestOfLayersAndSheets();
        Checks.finish();
    }

    /** Promise 36. */
    private static void asked() {
        GhostSigns x = new GhostSigns();
        Checks.due("before", x.asked(), 0);
        x.letter('a', 1);
        Checks.word(x, "a");
        x.see(0, 7, 1, 1);
        x.reading(0, 1);
        Checks.due("reading", x.asked(), 7);
        x.see(0, 7, 2, 1);
        x.reading(0, 1);
        Checks.due("reading NONE", x.asked(), 7);
        x.reading(4, 1);
        x.spread(-1);
        x.keep(-1);
        Checks.due("refused", x.asked(), 7);
        x.wall(1, 1, true);
        x.keep(1);
        Checks.due("keep", x.asked(), 1);
        x.spread(0);
        Checks.due("spread of none", x.asked(), Checks.NONE);
        x.read(0, 0);
        x.spread(0);
        Checks.due("spread", x.asked(), 0);
    }

    /** Promise 37. */
    private static void count() {
        GhostSigns x = new GhostSigns();
        Checks.word(x, "a");
        Checks.word(x, "b");
        Checks.word(x, "c");
        x.strike(1);
        x.see(0, 0, 7, 0);
        x.see(3, 9, 7, 3);
        x.see(3, 9, 1, 4);
        x.layer(0, 0, 0, 1);
        x.layer(1, 0, 0, 1);
        x.layer(1, 0, 0, 2);
        x.layer(3, 0, 0, 2);
        for (int i = 0; i < 6; i++) {
            x.read(i % 4, 0);
        }
        for (int i = 0; i < 7; i++) {
            x.wall(1, 1, i % 2 == 0);
        }
        int[] due = {3, 2, 5, 4, 6, 7};
        for (int what = 0; what <= 5; what++) {
            Checks.due("count(" + what + ")", x.count(what), due[what]);
        }
        Checks.due("count(-1)", x.count(-1), Checks.BAD);
        Checks.due("count(6)", x.count(6), Checks.BAD);
    }

    /** Promise 38. */
    private static void finding() {
        GhostSigns x = new GhostSigns();
        Checks.due("before", x.finding(), 0);
        x.tear(4);
        Checks.due("BAD is none", x.finding(), 0);
        x.mean();
        Checks.due("NOUGHT", x.finding(), Checks.NOUGHT);
        x.tear(0);
        Checks.due("NOTHING", x.finding(), Checks.NOTHING);
        x.sheet(0, -1);
        Checks.due("SIZE", x.finding(), Checks.SIZE);
        x.sheet(0, 1);
        x.tear(4);
        x.agrees(0);
        Checks.due("the latest", x.finding(), Checks.SIZE);
        x.lay(0, 1, 1);
        Checks.due("BEYOND", x.finding(), Checks.BEYOND);
        x.word(0);
        x.mark(0, 1);
        Checks.due("UNLIKE", x.finding(), Checks.UNLIKE);
    }

    /** Promise 39. */
    private static void findings() {
        GhostSigns x = new GhostSigns();
        for (int f = 1; f <= 5; f++) {
            Checks.due("before", x.findings(f), 0);
        }
        x.sheet(0, 1);
        Checks.word(x, "a");
        for (int i = 0; i < 5; i++) {
            x.sheet(0, -1);
        }
        for (int i = 0; i < 3; i++) {
            x.mark(0, 1);
        }
        for (int i = 0; i < 2; i++) {
            x.lay(0, 1, 1);
        }
        x.tear(1);
        x.strike(0);
        for (int i = 0; i < 4; i++) {
            x.mean();
        }
        for (int f = 1; f <= 5; f++) {
            Checks.due("findings(" + f + ")", x.findings(f), f);
        }
        Checks.due("findings(0)", x.findings(0), Checks.BAD);
        Checks.due("findings(6)", x.findings(6), Checks.BAD);
        Checks.due("findings(-1)", x.findings(-1), Checks.BAD);
    }

    /** Promise 40: the digest as the document tells it, from a list of numbers. */
    private static long digestOf(int[]... parts) {
        long h = 17;
        for (int[] part : parts) {
            for (int v : part) {
                h = 31 * h + v;
            }
        }
        return h;
    }

    private static int[] cellsAll(int v) {
        int[] all = new int[4 * 10 * 15];
        java.util.Arrays.fill(all, v);
        return all;
    }

    private static void digest() {
        GhostSigns x = new GhostSigns();
        int[] none = {0, 0, 0, 0, 0, 0};
        int[] missing = {-1, -1, -1, -1};
        Checks.due("new", x.digest(), digestOf(none, cellsAll(4), missing));
        x.letter('a', 3);
        Checks.word(x, "aab");
        Checks.firm(x, "a", 9, 1800, 1801, Checks.NONE);
        Checks.word(x, "b");
        x.strike(0);
        x.tear(3);
        int[] cells = cellsAll(4);
        cells[0] = 1;
        cells[1] = 0;
        cells[14] = 3;
        cells[15] = 2;
        cells[(1 * 10 + 2) * 15 + 3] = 2;
        cells[599] = 3;
        x.see(0, 0, 1, 1);
        x.see(0, 0, 2, 0);
        x.see(0, 0, 16384, 3);
        x.see(0, 1, 1, 2);
        x.see(1, 2, 8, 2);
        x.see(3, 9, 16384, 3);
        int[] counts = {3, 2, 6, 0, 0, 0};
        int[] words = {-1, 1, 1, 2, 1800, 1801, 9, 0, 1, 0, -9, -9, -9};
        Checks.due("words and cells", x.digest(), digestOf(counts, words, cells, missing));
        Checks.due("once more", x.digest(), digestOf(counts, words, cells, missing));
    }

    private static void digestOfLayersAndSheets() {
        GhostSigns x = new GhostSigns();
        Checks.word(x, "ab");
        x.layer(0, 0, 3, 2);
        x.layer(0, 0, 4, 1);
        x.layer(3, 0, 8, 3);
        x.read(0, 0);
        x.wall(1, 1, true);
        x.wall(1, 1, false);
        x.sheet(0, 0);
        x.sheet(2, 3);
        x.lay(2, 0, 200);
        x.lay(2, 2, 0);
        int[] counts = {1, 1, 0, 3, 1, 2};
        int[] word = {0, 2, 0, -9, -9, -9};
        int[] layers = {0, 3, 2, 0, 4, 1, 0, 8, 3};
        int[] sheets = {0, -1, 3, -56, 97, 0, 2, 97, 98};
        Checks.due("layers, sheets", x.digest(), digestOf(counts, word, cellsAll(4), layers, sheets));
    }
}
