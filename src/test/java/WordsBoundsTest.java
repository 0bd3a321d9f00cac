/** Promises 7 to 13 at every bound that the document names. */
public final class WordsBoundsTest {
    private static final int MIN = Scenes.MIN, MAX = Scenes.MAX, NONE = Checks.NONE;
    private static final int WRITTEN = Scenes.WRITTEN, EMPTY = Scenes.EMPTY, TEN = Scenes.TEN, MISSING = Scenes.MISSING;
    private static final int PLAIN = Scenes.PLAIN, FIRM = Scenes.FIRM, HEIR = Scenes.HEIR, SLOGAN = Scenes.SLOGAN;
    private static final int STRUCK = Scenes.STRUCK, LONG = Scenes.LONG, SHORT = Scenes.SHORT, EVER = Scenes.EVER;
    private static final int LAST = Scenes.LAST_A_YEAR_BEFORE;

    public static void main(String[] args) {
        word();
        wordOfBytes();
        wordsAtMost();
        firm();
        firmOf();
        firmInOrder();
        slogan();
        sloganInOrder();
        strike();
        strikeOfLayers();
        strikeOfFirms();
        told();
        toldMostAndLeast();
        mark();
        markMost();
        mean();
        Checks.finish();
    }

    /** Promise 7. */
    private static void word() {
        new Edge("7: word(s)", Scenes::lived, (x, s) -> x.word(s))
                .takes(WRITTEN, EVER).bad(Scenes.noSheet()).finds(Checks.NOTHING, MISSING)
                .finds(Checks.SIZE, EMPTY, TEN);
        sizes("7: word", x -> x.word(3));
        new Edge("7: FULL ahead of all but BAD, word(s)", Scenes::full, (x, s) -> x.word(s))
                .full(WRITTEN, EMPTY, TEN, MISSING).bad(Scenes.noSheet());
    }

    /** What the SHEET 3 of a call that makes a WORD may hold: 1 to 8 LETTERS. */
    private static void sizes(String name, Cases.Call call) {
        String[] taken = {"a", "-a", "abcdefgh", "abcdefgh--", "-abcdefgh-"};
        int[] letters = {1, 1, 8, 8, 8};
        for (int i = 0; i < taken.length; i++) {
            String text = taken[i];
            GhostSigns x = Cases.takes(name + " of " + text, () -> Scenes.livedWith(text), call, EVER);
            Checks.due(name + " of " + text + ": LETTERS", x.told(EVER, 1), letters[i]);
        }
        String[] none = {"", "-", "A", "`{", "----------"};
        for (String text : none) {
            Cases.finds(name + " of none: " + text, () -> Scenes.livedWith(text), call, Checks.SIZE);
        }
        String[] tooMany = {"abcdefghi", "abcdefghi-", "abcdefghij"};
        for (String text : tooMany) {
            Cases.finds(name + " of too many: " + text, () -> Scenes.livedWith(text), call, Checks.SIZE);
        }
    }

    /** Promise 7: a to z are LETTERS; bytes that are none are left out. */
    private static void wordOfBytes() {
        for (int v = -128; v <= 127; v++) {
            GhostSigns x = new GhostSigns();
            x.sheet(0, 2);
            x.lay(0, 1, v);
            x.word(0);
            Checks.due("7: LETTERS with byte " + v, x.told(0, 1), v >= 97 && v <= 122 ? 2 : 1);
        }
        GhostSigns y = new GhostSigns();
        y.letter('a', 1);
        y.letter('z', 7);
        Checks.word(y, "z-a");
        y.see(0, 0, 7, 1);
        y.see(0, 1, 1, 1);
        Checks.due("7: the LETTERS that stay close up, in their order", y.lack(0, 0, 0, 1), 0);
    }

    /** Terms 1: 16 WORDS at most ever; STRUCK ones leave no room. */
    private static void wordsAtMost() {
        Cases.takes("7: the 16th WORD", () -> Scenes.words(15), x -> x.word(3), 15);
        Cases.takes("8: the 16th WORD, a FIRM", () -> Scenes.words(15), x -> x.firm(3, 1, 1800, 1800, NONE), 15);
        Cases.full("7: a 17th WORD", () -> Scenes.words(16), x -> x.word(3));
        Cases.full("8: a 17th WORD, a FIRM", () -> Scenes.words(16), x -> x.firm(3, 1, 1800, 1800, NONE));
        Cases.full("7: a 17th WORD, one being STRUCK", WordsBoundsTest::fullWithStruck, x -> x.word(3));
        Cases.full("8: a 17th, one being STRUCK", WordsBoundsTest::fullWithStruck, x -> x.firm(3, 1, 1800, 1800, NONE));
        GhostSigns x = Scenes.words(2);
        x.strike(1);
        Checks.due("7: a number is not given twice", x.word(3), 2);
    }

    private static GhostSigns fullWithStruck() {
        GhostSigns x = Scenes.words(16);
        x.strike(15);
        return x;
    }

    /** Promise 8: the SHEET, the NUMBER and the years. */
    private static void firm() {
        new Edge("8: firm(s, ..)", Scenes::lived, (x, s) -> x.firm(s, 1, 1800, 1801, NONE))
                .takes(WRITTEN, EVER).bad(Scenes.noSheet()).finds(Checks.NOTHING, MISSING)
                .finds(Checks.SIZE, EMPTY, TEN);
        new Edge("8: NUMBER", Scenes::lived, (x, n) -> x.firm(WRITTEN, n, 1800, 1801, NONE))
                .takes(1, EVER).takes(200, EVER).bad(Scenes.noNumber());
        new Edge("8: from, up to 1800", Scenes::lived, (x, from) -> x.firm(WRITTEN, 1, from, 1800, NONE))
                .takes(1700, EVER).takes(1800, EVER).bad(Scenes.noYear()).bad(1801, 2100);
        new Edge("8: from, up to 2100", Scenes::lived, (x, from) -> x.firm(WRITTEN, 1, from, 2100, NONE))
                .takes(1700, EVER).takes(2100, EVER).bad(Scenes.noYear());
        new Edge("8: to, from 1800 on", Scenes::lived, (x, to) -> x.firm(WRITTEN, 1, 1800, to, NONE))
                .takes(1800, EVER).takes(2100, EVER).bad(Scenes.noYear()).bad(1799, 1700);
        new Edge("8: to, from 1700 on", Scenes::lived, (x, to) -> x.firm(WRITTEN, 1, 1700, to, NONE))
                .takes(1700, EVER).takes(2100, EVER).bad(Scenes.noYear());
        Cases.bad("8: both years too early", Scenes::lived, x -> x.firm(WRITTEN, 1, 1699, 1699, NONE));
        Cases.bad("8: both years too late", Scenes::lived, x -> x.firm(WRITTEN, 1, 2101, 2101, NONE));
        sizes("8: firm", x -> x.firm(3, 1, 1800, 1800, NONE));
        sizes("8: heir", x -> x.firm(3, 1, 1800, 1800, FIRM));
        GhostSigns x = Scenes.lived();
        x.firm(WRITTEN, 200, 1700, 2100, NONE);
        Checks.due("8: its first year", x.told(EVER, 3), 1700);
        Checks.due("8: its last year", x.told(EVER, 4), 2100);
        Checks.due("8: its NUMBER", x.told(EVER, 5), 200);
    }

    /** Promise 8: of NONE, a FIRM, an HEIR, or what is none of these. */
    private static void firmOf() {
        new Edge("8: of", Scenes::lived, (x, of) -> x.firm(WRITTEN, 1, 1800, 1801, of))
                .takes(NONE, EVER).takes(FIRM, EVER).takes(HEIR, EVER).takes(LAST, EVER)
                .bad(MIN, -10, -8, -3, -1, EVER, 15, 16, MAX)
                .finds(Checks.UNLIKE, PLAIN, SLOGAN, LONG).finds(Checks.NOTHING, STRUCK);
        new Edge("8: no WORDS, of", WordsBoundsTest::oneSheet, (x, of) -> x.firm(0, 1, 1800, 1801, of))
                .takes(NONE, 0).bad(MIN, -1, 0, 1, MAX);
        GhostSigns x = Scenes.lived();
        x.firm(WRITTEN, 1, 1800, 1801, NONE);
        Checks.due("8: of NONE it is a FIRM", x.told(EVER, 0), 1);
        x.firm(WRITTEN, 1, 1800, 1801, EVER);
        Checks.due("8: of a FIRM it is an HEIR", x.told(EVER + 1, 0), 2);
        Checks.due("8: of that FIRM", x.mark(EVER + 1, 2), EVER);
    }

    private static GhostSigns oneSheet() {
        GhostSigns x = new GhostSigns();
        x.sheet(0, 1);
        return x;
    }

    /** Promise 8: of two refusals that both fit, the one that comes first. */
    private static void firmInOrder() {
        new Edge("8: BAD ahead of NOTHING, firm(MISSING, n, ..)", Scenes::lived,
                (x, n) -> x.firm(MISSING, n, 1800, 1801, STRUCK)).bad(0, 201);
        Cases.bad("8: BAD ahead of UNLIKE", Scenes::lived, x -> x.firm(EMPTY, 1, 1801, 1800, PLAIN));
        Cases.bad("8: BAD ahead of SIZE", Scenes::lived, x -> x.firm(EMPTY, 1, 1800, 1801, EVER));
        Cases.finds("8: NOTHING (SHEET) ahead of UNLIKE", Scenes::lived,
                x -> x.firm(MISSING, 1, 1800, 1801, PLAIN), Checks.NOTHING);
        Cases.finds("8: NOTHING (FIRM) ahead of SIZE", Scenes::lived,
                x -> x.firm(EMPTY, 1, 1800, 1801, STRUCK), Checks.NOTHING);
        Cases.finds("8: UNLIKE ahead of SIZE, none", Scenes::lived,
                x -> x.firm(EMPTY, 1, 1800, 1801, PLAIN), Checks.UNLIKE);
        Cases.finds("8: UNLIKE ahead of SIZE, too many", Scenes::lived,
                x -> x.firm(TEN, 1, 1800, 1801, SLOGAN), Checks.UNLIKE);
        new Edge("8: FULL ahead of NOTHING, SIZE, firm(s, ..)", Scenes::full, (x, s) -> x.firm(s, 1, 1800, 1801, NONE))
                .full(WRITTEN, EMPTY, TEN, MISSING).bad(Scenes.noSheet());
        new Edge("8: FULL ahead of NOTHING, UNLIKE, of", Scenes::full, (x, of) -> x.firm(WRITTEN, 1, 1800, 1801, of))
                .full(NONE, FIRM, STRUCK, PLAIN, 15).bad(MIN, -1, 16, MAX);
        Cases.bad("8: BAD ahead of FULL, NUMBER", Scenes::full, x -> x.firm(WRITTEN, 201, 1800, 1801, NONE));
        Cases.bad("8: BAD ahead of FULL, years", Scenes::full, x -> x.firm(WRITTEN, 1, 1801, 1800, NONE));
    }

    /** Promise 9. */
    private static void slogan() {
        new Edge("9: slogan(s, FIRM)", Scenes::lived, (x, s) -> x.slogan(s, FIRM))
                .takes(WRITTEN, EVER).bad(Scenes.noSheet()).finds(Checks.NOTHING, MISSING)
                .finds(Checks.SIZE, EMPTY, TEN);
        new Edge("9: slogan(WRITTEN, firm)", Scenes::lived, (x, firm) -> x.slogan(WRITTEN, firm))
                .takes(FIRM, EVER).takes(HEIR, EVER).takes(LAST, EVER).bad(Scenes.noWord())
                .finds(Checks.UNLIKE, PLAIN, SLOGAN, LONG).finds(Checks.NOTHING, STRUCK);
        sizes("9: slogan", x -> x.slogan(3, FIRM));
        Cases.bad("9: no WORDS", WordsBoundsTest::oneSheet, x -> x.slogan(0, 0));
        Cases.takes("9: the 16th WORD", () -> firmAndWords(14), x -> x.slogan(3, 0), 15);
        Cases.full("9: a 17th WORD", () -> firmAndWords(15), x -> x.slogan(3, 0));
    }

    /** WORD 0 is a FIRM; behind it come as many WORDS; SHEET 3 holds a LETTER. */
    private static GhostSigns firmAndWords(int many) {
        GhostSigns x = new GhostSigns();
        Checks.firm(x, "a", 1, 1800, 1801, NONE);
        for (int i = 0; i < many; i++) {
            x.word(3);
        }
        return x;
    }

    /** Promise 9: of two refusals that both fit, the one that comes first. */
    private static void sloganInOrder() {
        Cases.bad("9: BAD ahead of NOTHING", Scenes::lived, x -> x.slogan(MISSING, EVER));
        Cases.bad("9: BAD ahead of NOTHING, STRUCK", Scenes::lived, x -> x.slogan(4, STRUCK));
        Cases.bad("9: BAD ahead of SIZE", Scenes::lived, x -> x.slogan(EMPTY, NONE));
        Cases.finds("9: NOTHING ahead of UNLIKE", Scenes::lived, x -> x.slogan(MISSING, PLAIN), Checks.NOTHING);
        Cases.finds("9: NOTHING ahead of SIZE", Scenes::lived, x -> x.slogan(EMPTY, STRUCK), Checks.NOTHING);
        Cases.finds("9: UNLIKE ahead of SIZE, none", Scenes::lived, x -> x.slogan(EMPTY, PLAIN), Checks.UNLIKE);
        Cases.finds("9: UNLIKE ahead of SIZE, too many", Scenes::lived, x -> x.slogan(TEN, SLOGAN), Checks.UNLIKE);
        new Edge("9: FULL ahead of NOTHING, SIZE, slogan(s, FIRM)", Scenes::full, (x, s) -> x.slogan(s, FIRM))
                .full(WRITTEN, EMPTY, TEN, MISSING).bad(Scenes.noSheet());
        new Edge("9: FULL ahead of NOTHING, UNLIKE, slogan(WRITTEN, firm)", Scenes::full,
                (x, firm) -> x.slogan(WRITTEN, firm)).full(FIRM, STRUCK, PLAIN, 15).bad(MIN, NONE, -1, 16, MAX);
    }

    /** Promise 10. */
    private static void strike() {
        new Edge("10: strike(word)", Scenes::lived, (x, word) -> x.strike(word))
                .takes(SHORT, 1).takes(LAST, 1).bad(Scenes.noWord()).finds(Checks.NOTHING, STRUCK)
                .leaves(PLAIN, Checks.STATE).leaves(FIRM, Checks.STATE).leaves(HEIR, Checks.STATE)
                .leaves(SLOGAN, Checks.STATE).leaves(LONG, Checks.STATE);
        new Edge("10: strike(word) of 16", () -> Scenes.words(16), (x, word) -> x.strike(word))
                .takes(0, 1).takes(15, 1).bad(MIN, -1, 16, MAX);
        Cases.bad("10: no WORDS", GhostSigns::new, x -> x.strike(0));
        GhostSigns x = Scenes.words(3);
        x.strike(1);
        Checks.due("10: it is missing", x.count(1), 2);
        Checks.due("10: it was there", x.count(0), 3);
        Checks.due("10: the one ahead stays", x.told(0, 1), 1);
        Checks.due("10: the one behind stays", x.told(2, 1), 1);
        Checks.found(x, "10: twice", () -> x.strike(1), Checks.NOTHING);
    }

    /** Promise 10: a LAYER needs it, on any LINE and in any place of it, until it is there no more. */
    private static void strikeOfLayers() {
        for (int line = 0; line < 4; line++) {
            for (int place = 0; place < 3; place++) {
                GhostSigns x = Scenes.words(2);
                for (int i = 0; i < 3; i++) {
                    x.layer(line, i == place ? 1 : 0, 0, 1 + i);
                }
                Checks.due("10: LAYER " + place + " of LINE " + line, x.strike(1), Checks.STATE);
                x.bare(line);
                Checks.due("10: no LAYER any more", x.strike(1), 1);
            }
        }
        GhostSigns y = Scenes.words(3);
        y.layer(0, 2, 0, 3);
        y.two(0, 1, 2, 20000);
        Checks.due("10: a LAYER that two() took away", y.strike(2), 1);
        Checks.due("10: a LAYER that two() made beneath", y.strike(0), Checks.STATE);
        Checks.due("10: a LAYER that two() made above", y.strike(1), Checks.STATE);
    }

    /** Promise 10: a SLOGAN, an HEIR needs it, until the last of them is STRUCK. */
    private static void strikeOfFirms() {
        GhostSigns x = new GhostSigns();
        Checks.firm(x, "a", 1, 1800, 1800, NONE);
        Checks.slogan(x, "a", 0);
        Checks.firm(x, "a", 1, 1800, 1800, 0);
        Checks.due("10: both need it", x.strike(0), Checks.STATE);
        Checks.due("10: the SLOGAN", x.strike(1), 1);
        Checks.due("10: the HEIR needs it", x.strike(0), Checks.STATE);
        Checks.slogan(x, "a", 2);
        Checks.due("10: an HEIR's SLOGAN needs the HEIR", x.strike(2), Checks.STATE);
        Checks.due("10: that SLOGAN", x.strike(3), 1);
        Checks.due("10: the HEIR", x.strike(2), 1);
        Checks.slogan(x, "a", 0);
        Checks.due("10: a SLOGAN needs it", x.strike(0), Checks.STATE);
        Checks.due("10: the last SLOGAN", x.strike(4), 1);
        Checks.due("10: nothing needs it", x.strike(0), 1);
    }

    /** Promise 11. */
    private static void told() {
        int[][] due = {
            {0, 2, 5, NONE, NONE, NONE}, {1, 1, 2, 1800, 1900, 12}, {2, 1, 1, 1850, 1899, 30},
            {3, 2, 5, 1850, 1899, 30}
        };
        for (int word = PLAIN; word <= SLOGAN; word++) {
            int of = word;
            Edge whats = new Edge("11: told(" + word + ", what)", Scenes::lived, (x, what) -> x.told(of, what));
            for (int what = 0; what <= 5; what++) {
                whats.leaves(what, due[word][what]);
            }
            whats.bad(MIN, -1, 6, MAX);
        }
        new Edge("11: told(word, 1)", Scenes::lived, (x, word) -> x.told(word, 1))
                .leaves(0, 2).leaves(EVER - 1, 1).bad(Scenes.noWord()).finds(Checks.NOTHING, STRUCK);
        new Edge("11: told(STRUCK, what)", Scenes::lived, (x, what) -> x.told(STRUCK, what))
                .finds(Checks.NOTHING, 0, 1, 2, 3, 4, 5).bad(MIN, -1, 6, MAX);
        Cases.bad("11: no WORDS", GhostSigns::new, x -> x.told(0, 0));
        Cases.leaves("11: the 16th WORD", Scenes::full, x -> x.told(15, 1), 1);
        Cases.bad("11: a 17th WORD", Scenes::full, x -> x.told(16, 1));
    }

    /** Promise 11: cells of LETTERS without STROKES, and of 8 LETTERS with all. */
    private static void toldMostAndLeast() {
        Cases.leaves("11: 8 LETTERS", Scenes::lived, x -> x.told(LONG, 1), 8);
        Cases.leaves("11: 120 cells", Scenes::lived, x -> x.told(LONG, 2), 120);
        GhostSigns x = Scenes.lived();
        x.letter('z', 0);
        Checks.due("11: no cells", x.told(LONG, 2), 0);
        x.letter('z', 16384);
        Checks.due("11: the last cell of each", x.told(LONG, 2), 8);
    }

    /** Promise 12. */
    private static void mark() {
        new Edge("12: mark(FIRM, kind)", Scenes::lived, (x, kind) -> x.mark(FIRM, kind))
                .leaves(1, 1).finds(Checks.UNLIKE, 2, 3).bad(MIN, -1, 0, 4, MAX);
        new Edge("12: mark(HEIR, kind)", Scenes::lived, (x, kind) -> x.mark(HEIR, kind))
                .leaves(1, 1).leaves(2, FIRM).finds(Checks.UNLIKE, 3).bad(MIN, -1, 0, 4, MAX);
        new Edge("12: mark(SLOGAN, kind)", Scenes::lived, (x, kind) -> x.mark(SLOGAN, kind))
                .leaves(3, HEIR).finds(Checks.UNLIKE, 1, 2).bad(MIN, -1, 0, 4, MAX);
        new Edge("12: mark(PLAIN, kind)", Scenes::lived, (x, kind) -> x.mark(PLAIN, kind))
                .finds(Checks.UNLIKE, 1, 2, 3).bad(MIN, -1, 0, 4, MAX);
        new Edge("12: NOTHING ahead of UNLIKE, mark(STRUCK, kind)", Scenes::lived, (x, kind) -> x.mark(STRUCK, kind))
                .finds(Checks.NOTHING, 1, 2, 3).bad(MIN, -1, 0, 4, MAX);
        new Edge("12: mark(word, 1)", Scenes::lived, (x, word) -> x.mark(word, 1))
                .leaves(LAST, 0).bad(Scenes.noWord());
        Cases.bad("12: no WORDS", GhostSigns::new, x -> x.mark(0, 1));
    }

    /** Promise 12: as many HEIRS, SLOGANS as there may be, in a chain and in a house. */
    private static void markMost() {
        GhostSigns chain = new GhostSigns();
        Checks.firm(chain, "a", 1, 1800, 1800, NONE);
        GhostSigns house = new GhostSigns();
        Checks.firm(house, "a", 1, 1800, 1800, NONE);
        Checks.due("12: none yet", house.mark(0, 1), 0);
        for (int i = 1; i <= 15; i++) {
            chain.firm(3, 1, 1800, 1800, i - 1);
            Checks.due("12: the first FIRM of HEIR " + i, chain.mark(i, 2), 0);
            Checks.due("12: a new HEIR has none", chain.mark(i, 1), 0);
            Checks.due("12: the one ahead has one", chain.mark(i - 1, 1), 1);
            Checks.due("12: made for one FIRM", i % 2 == 0 ? house.firm(3, 1, 1800, 1800, 0) : house.slogan(3, 0), i);
            Checks.due("12: SLOGANS and HEIRS", house.mark(0, 1), i);
        }
        Checks.due("12: a SLOGAN's FIRM", house.mark(15, 3), 0);
        house.strike(15);
        Checks.due("12: without a STRUCK SLOGAN", house.mark(0, 1), 14);
        house.strike(14);
        Checks.due("12: without a STRUCK HEIR", house.mark(0, 1), 13);
    }

    /** Promise 13. */
    private static void mean() {
        Cases.finds("13: no WORDS ever", GhostSigns::new, GhostSigns::mean, Checks.NOUGHT);
        Cases.finds("13: all STRUCK", WordsBoundsTest::allStruck, GhostSigns::mean, Checks.NOUGHT);
        Cases.leaves("13: the least, of the most", Scenes::full, GhostSigns::mean, (2 + 1 + 1 + 2 + 8 + 1 * 10) / 15);
        GhostSigns x = new GhostSigns();
        Checks.word(x, "abcdefgh");
        Checks.due("13: the greatest", x.mean(), 8);
        Checks.word(x, "abcdefg");
        Checks.due("13: 7 and a half, cut", x.mean(), 7);
        Checks.word(x, "abcdefgh");
        Checks.due("13: 7 and two thirds, cut", x.mean(), 7);
        x.strike(1);
        Checks.due("13: without the STRUCK", x.mean(), 8);
    }

    private static GhostSigns allStruck() {
        GhostSigns x = Scenes.words(2);
        x.strike(0);
        x.strike(1);
        return x;
    }
}
