/** Promises 29 to 35 at every bound that the document names. */
public final class LightsHandsKeepingBoundsTest {
    private static final int MIN = Scenes.MIN, MAX = Scenes.MAX, NONE = Checks.NONE;
    private static final int STRUCK = Scenes.STRUCK, EVER = Scenes.EVER, ALL = 32767;

    public static void main(String[] args) {
        light();
        lightsAtMost();
        gain();
        gainMostAndLeast();
        gainOfLines();
        next();
        nextOfEqual();
        read();
        readAtMost();
        spread();
        spreadMost();
        wall();
        keep();
        keepByAPound();
        keepTies();
        keepWithoutLeave();
        Checks.finish();
    }

    /** Promise 29. */
    private static void light() {
        new Edge("29: light(light, 0, 0, 1)", Scenes::lived, (x, light) -> x.light(light, 0, 0, 1))
                .takes(0, 4).takes(5, 4).bad(MIN, -1, 6, MAX);
        new Edge("29: light(0, line, 0, 1)", Scenes::lived, (x, line) -> x.light(0, line, 0, 1))
                .takes(0, 4).takes(3, 4).bad(Scenes.noLine());
        new Edge("29: light(0, 0, slot, 1)", Scenes::lived, (x, slot) -> x.light(0, 0, slot, 1))
                .takes(0, 4).takes(9, 4).finds(Checks.BEYOND, Scenes.noSlot());
        new Edge("29: light(0, 0, 0, cells)", Scenes::lived, (x, cells) -> x.light(0, 0, 0, cells))
                .takes(0, 4).takes(16384, 4).takes(ALL, 4).bad(Scenes.noBits());
        Cases.bad("29: BAD ahead of BEYOND, LIGHT", Scenes::lived, x -> x.light(6, 0, 10, 1));
        Cases.bad("29: BAD ahead of BEYOND, LINE", Scenes::lived, x -> x.light(0, 4, 10, 1));
        Cases.bad("29: BAD ahead of BEYOND, bits", Scenes::lived, x -> x.light(0, 0, -1, 32768));
    }

    /** Promise 29: 30 such lines in all, whichever LIGHT they are of and what they show. */
    private static void lightsAtMost() {
        GhostSigns x = new GhostSigns();
        for (int i = 1; i <= 30; i++) {
            Checks.due("29: line " + i, x.light(i % 6, i % 4, i % 10, i % 2), i);
        }
        Checks.due("29: a 31st", x.light(0, 0, 0, 0), Checks.FULL);
        new Edge("29: FULL, light(light, 0, 0, 1)", Scenes::full, (y, light) -> y.light(light, 0, 0, 1))
                .full(0, 5).bad(-1, 6);
        new Edge("29: FULL ahead of BEYOND, light(0, 0, slot, 1)", Scenes::full, (y, slot) -> y.light(0, 0, slot, 1))
                .full(0, 9).full(Scenes.noSlot());
        Cases.bad("29: BAD ahead of FULL, LINE", Scenes::full, y -> y.light(0, 4, 0, 1));
        Cases.bad("29: BAD ahead of FULL, bits", Scenes::full, y -> y.light(0, 0, 0, -1));
    }

    /** Promise 30: in lived() LIGHT 0 shows two CELLS, LIGHT 5 fifteen of a LINE that is not known. */
    private static void gain() {
        new Edge("30: gain(light, 3, 1)", Scenes::lived, (x, light) -> x.gain(light, 3, 1))
                .leaves(0, 2).leaves(1, 0).leaves(5, 15).bad(MIN, -1, 6, MAX);
        new Edge("30: gain(5, line, 1)", Scenes::lived, (x, line) -> x.gain(5, line, 1))
                .leaves(0, 0).leaves(3, 15).bad(Scenes.noLine());
        new Edge("30: gain(5, 3, colour)", Scenes::lived, (x, colour) -> x.gain(5, 3, colour))
                .leaves(1, 15).leaves(3, 15).bad(Scenes.noColour());
        Cases.leaves("30: no WORDS, no LIGHTS", GhostSigns::new, x -> x.gain(0, 0, 1), 0);
    }

    /** LIGHT 0 shows all of a LINE; as many WORDS: "z" with all STROKES, then those of none. */
    private static GhostSigns shown(int many) {
        GhostSigns x = Scenes.words(0);
        x.letter('z', ALL);
        x.lay(3, 0, 'z');
        for (int i = 0; i < many; i++) {
            x.word(3);
            x.lay(3, 0, 'a');
        }
        for (int slot = 0; slot < 10; slot++) {
            x.light(0, 0, slot, ALL);
        }
        return x;
    }

    /** Promise 30: no RIVALS, one alone, all CELLS of a LINE, and none that are not known. */
    private static void gainMostAndLeast() {
        Cases.leaves("30: no RIVALS", () -> shown(0), x -> x.gain(0, 0, 1), 0);
        Cases.leaves("30: all CELLS of a LINE", () -> shown(1), x -> x.gain(0, 0, 1), 150);
        Cases.leaves("30: all CELLS of a LINE, two WORDS", () -> shown(2), x -> x.gain(0, 0, 1), 150);
        GhostSigns x = shown(1);
        x.see(0, 9, 1, 1);
        Checks.due("30: one RIVAL alone", x.gain(0, 0, 1), 0);
        Checks.due("30: none of them bare in another colour", x.gain(0, 0, 2), 9 * 15);
        for (int slot = 0; slot < 10; slot++) {
            x.see(0, slot, ALL, 0);
        }
        Checks.due("30: all CELLS are known", x.gain(0, 0, 1), 0);
        x.see(0, 9, 16384, 4);
        Checks.due("30: RIVALS with the least LACK alone", x.gain(0, 0, 1), 0);
        x.see(0, 0, 1, 4);
        Checks.due("30: one CELL each of two SLOTS", x.gain(0, 0, 1), 2);
    }

    /** Promises 29, 30: what a LIGHT shows, it shows too; what it shows twice counts once. */
    private static void gainOfLines() {
        GhostSigns x = Scenes.words(1);
        x.letter('a', ALL);
        int[] shown = {1, 16384, 2, 16385, 0, ALL, 1};
        int[] gains = {1, 2, 3, 3, 3, 15, 15};
        for (int i = 0; i < shown.length; i++) {
            x.light(5, 3, 9, shown[i]);
            Checks.due("30: behind line " + i, x.gain(5, 3, 3), gains[i]);
            Checks.due("30: another LIGHT, behind line " + i, x.gain(4, 3, 3), 0);
            Checks.due("30: another LINE, behind line " + i, x.gain(5, 2, 3), 0);
        }
    }

    /** Promise 31. */
    private static void next() {
        new Edge("31: next(line, 1)", Scenes::lived, (x, line) -> x.next(line, 1))
                .leaves(0, NONE).leaves(3, 5).bad(Scenes.noLine());
        new Edge("31: next(3, colour)", Scenes::lived, (x, colour) -> x.next(3, colour))
                .leaves(1, 5).leaves(3, 5).bad(Scenes.noColour());
        Cases.leaves("31: no LIGHTS", () -> Scenes.words(2), x -> x.next(0, 1), NONE);
        Cases.leaves("31: no RIVALS", () -> shown(0), x -> x.next(0, 1), NONE);
        Cases.leaves("31: the first LIGHT", () -> shown(1), x -> x.next(0, 1), 0);
        Cases.leaves("31: none shows that LINE", () -> shown(1), x -> x.next(1, 1), NONE);
    }

    /** Promise 31: of two LIGHTS with the greatest GAIN the least; of two with others the greater. */
    private static void nextOfEqual() {
        for (int low = 0; low < 6; low++) {
            for (int high = low + 1; high < 6; high++) {
                GhostSigns x = Scenes.words(1);
                x.letter('a', ALL);
                x.light(high, 0, 0, 1);
                Checks.due("31: " + high + " alone", x.next(0, 1), high);
                x.light(low, 0, 9, 16384);
                Checks.due("31: " + low + " as much as " + high, x.next(0, 1), low);
                x.light(high, 0, 0, 3);
                Checks.due("31: " + high + " by one more than " + low, x.next(0, 1), high);
            }
        }
    }

    /** Promise 32. */
    private static void read() {
        new Edge("32: read(line, 0)", Scenes::lived, (x, line) -> x.read(line, 0))
                .takes(0, 5).takes(3, 5).bad(Scenes.noLine());
        new Edge("32: read(0, word)", Scenes::lived, (x, word) -> x.read(0, word))
                .takes(0, 5).takes(EVER - 1, 5).bad(Scenes.noWord()).finds(Checks.NOTHING, STRUCK);
        Cases.bad("32: BAD ahead of NOTHING", Scenes::lived, x -> x.read(4, STRUCK));
        Cases.bad("32: no WORDS", GhostSigns::new, x -> x.read(0, 0));
    }

    /** Promise 32: 12 HANDS, of any LINE. */
    private static void readAtMost() {
        GhostSigns x = Scenes.words(1);
        for (int i = 1; i <= 12; i++) {
            Checks.due("32: HAND " + i, x.read(i % 4, 0), i);
        }
        Checks.due("32: a 13th", x.read(0, 0), Checks.FULL);
        new Edge("32: FULL ahead of NOTHING, read(0, word)", Scenes::full, (y, word) -> y.read(0, word))
                .full(0, STRUCK, 15).bad(-1, 16);
        new Edge("32: BAD ahead of FULL, read(line, 0)", Scenes::full, (y, line) -> y.read(line, 0))
                .full(0, 3).bad(Scenes.noLine());
    }

    /** Promise 33. */
    private static void spread() {
        new Edge("33: spread(line)", Scenes::lived, (x, line) -> x.spread(line))
                .takes(0, 2).takes(1, 0).takes(2, 1).takes(3, 0).bad(Scenes.noLine());
        int[] most = {Scenes.FIRM, NONE, Scenes.PLAIN, NONE};
        for (int line = 0; line < 4; line++) {
            GhostSigns x = Scenes.lived();
            x.spread(line);
            Checks.due("33: read most on LINE " + line, x.asked(), most[line]);
        }
        Cases.takes("33: no HANDS", GhostSigns::new, x -> x.spread(0), 0);
    }

    /** Promise 33: 12 HANDS that all read alike, all unlike, or as often one as another. */
    private static void spreadMost() {
        spreadOf("all alike", 1, 15, 15, 15, 15, 15, 15, 15, 15, 15, 15, 15, 15, 15);
        spreadOf("all unlike", 12, 4, 15, 14, 13, 12, 11, 10, 9, 8, 7, 6, 5, 4);
        spreadOf("as often", 2, 0, 15, 0, 15, 0, 15, 0, 15, 0, 15, 0, 15, 0);
        spreadOf("one more often", 2, 15, 0, 15, 0, 15, 0, 15, 0, 15, 0, 15, 15);
        spreadOf("the first and the last WORD", 2, 0, 15, 0);
        spreadOf("one HAND", 1, 15, 15);
    }

    private static void spreadOf(String name, int unlike, int most, int... words) {
        GhostSigns x = Scenes.words(16);
        for (int word : words) {
            x.read(3, word);
        }
        Checks.due("33: " + name, x.spread(3), unlike);
        Checks.due("33: " + name + ": read most", x.asked(), most);
        Checks.due("33: " + name + ": another LINE", x.spread(2), 0);
        Checks.due("33: " + name + ": none there", x.asked(), NONE);
    }

    /** Promise 34. */
    private static void wall() {
        new Edge("34: wall(worth, 1, true)", Scenes::lived, (x, worth) -> x.wall(worth, 1, true))
                .takes(0, 3).takes(1000, 3).bad(MIN, -1, 1001, MAX);
        new Edge("34: wall(1, cost, false)", Scenes::lived, (x, cost) -> x.wall(1, cost, false))
                .takes(1, 3).takes(1000, 3).bad(MIN, -1, 0, 1001, MAX);
        GhostSigns x = new GhostSigns();
        for (int i = 0; i < 12; i++) {
            Checks.due("34: WALL " + i, x.wall(1, 1, i % 2 == 0), i);
        }
        Checks.due("34: a 13th", x.wall(1, 1, true), Checks.FULL);
        Cases.full("34: with leave", Scenes::full, y -> y.wall(1000, 1, true));
        Cases.full("34: without leave", Scenes::full, y -> y.wall(0, 1000, false));
        new Edge("34: BAD ahead of FULL, wall(worth, 1, true)", Scenes::full, (y, worth) -> y.wall(worth, 1, true))
                .full(0, 1000).bad(-1, 1001);
        new Edge("34: BAD ahead of FULL, wall(1, cost, true)", Scenes::full, (y, cost) -> y.wall(1, cost, true))
                .full(1, 1000).bad(0, 1001);
    }

    /** Promise 35. */
    private static void keep() {
        new Edge("35: keep(budget)", Scenes::lived, (x, budget) -> x.keep(budget))
                .takes(0, 0).takes(12000, 30).bad(MIN, -1, 12001, MAX);
        new Edge("35: no WALLS, keep(budget)", GhostSigns::new, (x, budget) -> x.keep(budget))
                .takes(0, 0).takes(12000, 0).bad(-1, 12001);
        GhostSigns x = Scenes.lived();
        x.keep(0);
        Checks.due("35: nothing for nothing", x.asked(), 0);
        GhostSigns y = new GhostSigns();
        for (int i = 0; i < 12; i++) {
            y.wall(1000, 1000, true);
            Checks.due("35: all of " + (i + 1), y.keep(1000 * (i + 1)), 1000 * (i + 1));
            Checks.due("35: their bits", y.asked(), (2 << i) - 1);
            Checks.due("35: all but one of " + (i + 1), y.keep(1000 * (i + 1) - 1), 1000 * i);
            Checks.due("35: the least bits", y.asked(), (1 << i) - 1);
        }
    }

    /** Promise 35: WALLS of lived() cost 5 and 9 for 10 and 20; a third has no leave. */
    private static void keepByAPound() {
        int[] budgets = {1, 4, 5, 8, 9, 13, 14, 15};
        int[] worths = {0, 0, 10, 10, 20, 20, 30, 30};
        int[] bits = {0, 0, 1, 1, 2, 2, 3, 3};
        for (int i = 0; i < budgets.length; i++) {
            GhostSigns x = Scenes.lived();
            Checks.due("35: keep(" + budgets[i] + ")", x.keep(budgets[i]), worths[i]);
            Checks.due("35: bits for " + budgets[i], x.asked(), bits[i]);
        }
    }

    /** Promise 35: of equal worth the least cost, then the least bits. */
    private static void keepTies() {
        GhostSigns x = new GhostSigns();
        x.wall(10, 6, true);
        x.wall(10, 5, true);
        x.wall(5, 3, true);
        x.wall(5, 2, true);
        x.wall(0, 1, true);
        x.wall(10, 5, true);
        Checks.due("35: the greatest worth for 6", x.keep(6), 10);
        Checks.due("35: the least cost, then the least bits", x.asked(), 2);
        Checks.due("35: for 7", x.keep(7), 15);
        Checks.due("35: the cheaper of the small, the first of the great", x.asked(), 2 + 8);
        Checks.due("35: the greatest worth of all", x.keep(12000), 40);
        Checks.due("35: without one that is worth nothing", x.asked(), 1 + 2 + 4 + 8 + 32);
        Checks.due("35: nothing that is worth something", x.keep(1), 0);
        Checks.due("35: no bits", x.asked(), 0);
    }

    /** Promise 35: those without leave are not kept, whatever they are worth. */
    private static void keepWithoutLeave() {
        GhostSigns x = new GhostSigns();
        for (int i = 0; i < 11; i++) {
            x.wall(1000, 1, false);
        }
        Checks.due("35: none has leave", x.keep(12000), 0);
        Checks.due("35: no bits", x.asked(), 0);
        x.wall(1, 1000, true);
        Checks.due("35: the last alone has leave", x.keep(1000), 1);
        Checks.due("35: its bit", x.asked(), 1 << 11);
        Checks.due("35: it costs one more", x.keep(999), 0);
    }
}
