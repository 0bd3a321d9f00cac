/** Promises 1 to 13. */
public final class LettersSheetsWordsTest {
    public static void main(String[] args) {
        newObject();
        letter();
        sheet();
        lay();
        tear();
        copy();
        word();
        firm();
        slogan();
        strike();
        told();
        mark();
        mean();
        Checks.finish();
    }

    /** Promise 1. */
    private static void newObject() {
        GhostSigns x = new GhostSigns();
        for (int what = 0; what <= 5; what++) {
            Checks.due("new: count(" + what + ")", x.count(what), 0);
        }
        for (int c = 97; c <= 122; c++) {
            Checks.due("new: letter(" + c + ", 0)", x.letter(c, 0), 0);
        }
        for (int s = 0; s < 4; s++) {
            int at = s;
            Checks.found(x, "new: tear(" + s + ")", () -> x.tear(at), Checks.NOTHING);
        }
        for (int line = 0; line < 4; line++) {
            Checks.due("new: seen", x.seen(line, 2 * line, 3 * line), 4);
        }
        GhostSigns y = new GhostSigns();
        Checks.due("new: finding()", y.finding(), 0);
        Checks.due("new: asked()", y.asked(), 0);
        int atOne = Checks.firm(y, "a", 1, 1890, 1900, Checks.NONE);
        int atTwo = Checks.firm(y, "a", 2, 1890, 1900, Checks.NONE);
        int tooEarly = Checks.firm(y, "a", 1, 1890, 1899, Checks.NONE);
        Checks.due("new: span at NUMBER 1 in 1900", y.span(atOne, false), 1890);
        Checks.due("new: span at NUMBER 2 in 1900", y.span(atTwo, false), Checks.NONE);
        Checks.due("new: span up to 1899", y.span(tooEarly, false), Checks.NONE);
    }

    /** Promise 2. */
    private static void letter() {
        GhostSigns x = new GhostSigns();
        Checks.due("letter(97, 5)", x.letter(97, 5), 0);
        Checks.due("letter(97, 32767)", x.letter(97, 32767), 5);
        Checks.due("letter(122, 9)", x.letter(122, 9), 0);
        Checks.due("letter(122, 0)", x.letter(122, 0), 9);
        Checks.due("letter(97, 1)", x.letter(97, 1), 32767);
        int[] none = {96, 123, 65, 0, -1, Integer.MIN_VALUE, Integer.MAX_VALUE};
        for (int c : none) {
            Checks.due("letter(" + c + ", 0)", x.letter(c, 0), Checks.BAD);
        }
        int[] beyond = {32768, -1, Integer.MIN_VALUE, Integer.MAX_VALUE};
        for (int strokes : beyond) {
            Checks.due("letter(97, " + strokes + ")", x.letter(97, strokes), Checks.BAD);
        }
        Checks.due("letter(97, 1) behind refusals", x.letter(97, 1), 1);
    }

    /** Promise 3. */
    private static void sheet() {
        GhostSigns x = new GhostSigns();
        Checks.due("sheet(0, 0)", x.sheet(0, 0), 0);
        Checks.due("sheet(3, 10)", x.sheet(3, 10), 10);
        for (int i = 0; i < 10; i++) {
            Checks.due("byte of a new sheet", x.lay(3, i, 98), 1097);
        }
        Checks.due("sheet(3, 2) anew", x.sheet(3, 2), 2);
        Checks.due("byte of a sheet made anew", x.lay(3, 1, 98), 1097);
        Checks.due("sheet(-1, 1)", x.sheet(-1, 1), Checks.BAD);
        Checks.due("sheet(4, 1)", x.sheet(4, 1), Checks.BAD);
        Checks.due("sheet(0, 11)", x.sheet(0, 11), Checks.BAD);
        Checks.due("sheet(4, -1): BAD ahead of SIZE", x.sheet(4, -1), Checks.BAD);
        Checks.found(x, "sheet(3, -1)", () -> x.sheet(3, -1), Checks.SIZE);
        Checks.found(x, "sheet(3, min)", () -> x.sheet(3, Integer.MIN_VALUE), Checks.SIZE);
        Checks.due("sheet 3 stays", x.lay(3, 1, 98), 1098);
    }

    /** Promise 4. */
    private static void lay() {
        GhostSigns x = new GhostSigns();
        x.sheet(1, 3);
        Checks.due("lay(1, 0, 127)", x.lay(1, 0, 127), 1097);
        Checks.due("lay(1, 0, 128)", x.lay(1, 0, 128), 1127);
        Checks.due("lay(1, 0, 255)", x.lay(1, 0, 255), 872);
        Checks.due("lay(1, 0, 256)", x.lay(1, 0, 256), 999);
        Checks.due("lay(1, 0, -129)", x.lay(1, 0, -129), 1000);
        Checks.due("lay(1, 0, 0)", x.lay(1, 0, 0), 1127);
        Checks.due("lay(1, 2, 0)", x.lay(1, 2, 0), 1097);
        Checks.due("lay(4, 0, 0)", x.lay(4, 0, 0), Checks.BAD);
        Checks.due("lay(-1, 0, 0)", x.lay(-1, 0, 0), Checks.BAD);
        Checks.found(x, "lay(0, 99, 0)", () -> x.lay(0, 99, 0), Checks.NOTHING);
        Checks.found(x, "lay(1, 3, 0)", () -> x.lay(1, 3, 0), Checks.BEYOND);
        Checks.found(x, "lay(1, -1, 0)", () -> x.lay(1, -1, 0), Checks.BEYOND);
        Checks.found(x, "lay(1, max, 0)", () -> x.lay(1, Integer.MAX_VALUE, 0), Checks.BEYOND);
        Checks.found(x, "lay(1, min, 0)", () -> x.lay(1, Integer.MIN_VALUE, 0), Checks.BEYOND);
    }

    /** Promise 5. */
    private static void tear() {
        GhostSigns x = new GhostSigns();
        x.sheet(2, 0);
        Checks.due("tear(2)", x.tear(2), 1);
        Checks.found(x, "tear(2) again", () -> x.tear(2), Checks.NOTHING);
        Checks.found(x, "word of a torn sheet", () -> x.word(2), Checks.NOTHING);
        Checks.due("tear(-1)", x.tear(-1), Checks.BAD);
        Checks.due("tear(4)", x.tear(4), Checks.BAD);
        Checks.due("sheet(2, 1) after tear", x.sheet(2, 1), 1);
        Checks.due("tear(2) then", x.tear(2), 1);
    }

    /** Promise 6. */
    private static void copy() {
        GhostSigns x = new GhostSigns();
        Checks.write(x, 0, "abcde");
        Checks.write(x, 1, "xyz");
        Checks.due("copy onto itself, upwards", x.copy(0, 0, 0, 1, 4), 1);
        sheetIs(x, 0, "aabcd");
        Checks.due("copy onto itself, downwards", x.copy(0, 2, 0, 0, 3), 1);
        sheetIs(x, 0, "bcdcd");
        Checks.due("copy to another", x.copy(0, 1, 1, 1, 2), 1);
        sheetIs(x, 1, "xcd");
        sheetIs(x, 0, "bcdcd");
        Checks.due("copy of none at the end", x.copy(0, 5, 1, 3, 0), 1);
        sheetIs(x, 1, "xcd");
        Checks.due("copy(4, ..)", x.copy(4, 0, 0, 0, 1), Checks.BAD);
        Checks.due("copy(.., -1, ..)", x.copy(0, 0, -1, 0, 1), Checks.BAD);
        Checks.due("BAD ahead of SIZE", x.copy(0, 0, 4, 0, -1), Checks.BAD);
        Checks.found(x, "SIZE ahead of NOTHING", () -> x.copy(2, 0, 3, 0, -1), Checks.SIZE);
        Checks.found(x, "no sheet to copy", () -> x.copy(2, 9, 0, 0, 1), Checks.NOTHING);
        Checks.found(x, "no sheet to copy to", () -> x.copy(0, 9, 2, 0, 1), Checks.NOTHING);
        Checks.found(x, "too many to take", () -> x.copy(1, 1, 0, 0, 3), Checks.BEYOND);
        Checks.found(x, "too many to bring", () -> x.copy(0, 0, 1, 1, 3), Checks.BEYOND);
        Checks.found(x, "from -1", () -> x.copy(0, -1, 1, 0, 1), Checks.BEYOND);
        Checks.found(x, "to -1", () -> x.copy(0, 0, 1, -1, 1), Checks.BEYOND);
        Checks.found(x, "none, beyond the end", () -> x.copy(0, 6, 1, 0, 0), Checks.BEYOND);
        int max = Integer.MAX_VALUE;
        Checks.found(x, "from max", () -> x.copy(0, max, 1, 0, max), Checks.BEYOND);
        Checks.found(x, "max of them", () -> x.copy(0, 1, 1, 1, max), Checks.BEYOND);
        Checks.found(x, "to min", () -> x.copy(0, 0, 1, Integer.MIN_VALUE, max), Checks.BEYOND);
        sheetIs(x, 0, "bcdcd");
        sheetIs(x, 1, "xcd");
    }

    private static void sheetIs(GhostSigns x, int s, String text) {
        for (int i = 0; i < text.length(); i++) {
            Checks.due("byte " + i + " of " + text, x.lay(s, i, text.charAt(i)), 1000 + text.charAt(i));
        }
    }

    /** Promise 7. */
    private static void word() {
        GhostSigns x = new GhostSigns();
        x.letter('a', 1);
        x.letter('z', 6);
        Checks.due("word of a to z alone", Checks.word(x, "`az{AZ"), 0);
        Checks.due("its kind", x.told(0, 0), 0);
        Checks.due("its letters", x.told(0, 1), 2);
        Checks.due("its cells", x.told(0, 2), 3);
        Checks.due("word of 8", Checks.word(x, "aaaaaaaa--"), 1);
        Checks.due("its letters", x.told(1, 1), 8);
        x.sheet(0, 1);
        x.lay(0, 0, 97 + 256);
        Checks.due("word of a byte cut to a", x.word(0), 2);
        x.lay(0, 0, 98);
        x.tear(0);
        Checks.due("a word does not change with its sheet", x.told(2, 2), 1);
        Checks.due("word(4)", x.word(4), Checks.BAD);
        Checks.due("word(-1)", x.word(-1), Checks.BAD);
        Checks.found(x, "word(0) torn", () -> x.word(0), Checks.NOTHING);
        Checks.found(x, "word of 9", () -> Checks.word(x, "aaaaaaaaa"), Checks.SIZE);
        Checks.found(x, "word of none", () -> Checks.word(x, "-A1"), Checks.SIZE);
        Checks.found(x, "word of an empty sheet", () -> Checks.word(x, ""), Checks.SIZE);
        Checks.due("count(0)", x.count(0), 3);
        Checks.fillWords(x);
        Checks.due("the 17th word", x.word(3), Checks.FULL);
        Checks.due("FULL ahead of NOTHING", x.word(0), Checks.FULL);
        Checks.due("BAD ahead of FULL", x.word(4), Checks.BAD);
        x.strike(0);
        Checks.due("a struck word leaves no room", x.word(3), Checks.FULL);
    }

    /** Promise 8. */
    private static void firm() {
        GhostSigns x = new GhostSigns();
        Checks.due("firm", Checks.firm(x, "ab", 1, 1700, 2100, Checks.NONE), 0);
        Checks.due("heir", Checks.firm(x, "abc", 200, 1800, 1800, 0), 1);
        Checks.due("heir of an heir", Checks.firm(x, "a", 7, 1801, 1802, 1), 2);
        Checks.due("kinds", x.told(0, 0) * 100 + x.told(1, 0) * 10 + x.told(2, 0), 122);
        Checks.due("from", x.told(1, 3), 1800);
        Checks.due("to", x.told(2, 4), 1802);
        Checks.due("number", x.told(2, 5), 7);
        Checks.due("slogan", Checks.slogan(x, "a", 0), 3);
        Checks.due("word", Checks.word(x, "a"), 4);
        Checks.due("word to strike", Checks.word(x, "a"), 5);
        x.strike(5);
        firmRefused(x, Checks.BAD);
        Checks.due("BAD ahead of NOTHING", x.firm(0, 0, 1800, 1800, 5), Checks.BAD);
        Checks.found(x, "no sheet", () -> x.firm(0, 1, 1800, 1800, Checks.NONE), Checks.NOTHING);
        Checks.found(x, "no sheet, of no firm", () -> x.firm(0, 1, 1800, 1800, 4), Checks.NOTHING);
        x.sheet(1, 0);
        Checks.found(x, "of a struck one", () -> x.firm(1, 1, 1800, 1800, 5), Checks.NOTHING);
        Checks.found(x, "of a word", () -> x.firm(1, 1, 1800, 1800, 4), Checks.UNLIKE);
        Checks.found(x, "of a slogan", () -> x.firm(1, 1, 1800, 1800, 3), Checks.UNLIKE);
        Checks.found(x, "none", () -> x.firm(1, 1, 1800, 1800, 0), Checks.SIZE);
        x.sheet(1, 9);
        Checks.found(x, "nine", () -> x.firm(1, 1, 1800, 1800, Checks.NONE), Checks.SIZE);
        Checks.due("no refused firm is there", x.count(0), 6);
        Checks.fillWords(x);
        firmRefused(x, Checks.BAD);
        Checks.due("FULL", x.firm(3, 1, 1800, 1800, 0), Checks.FULL);
        Checks.due("FULL ahead of NOTHING", x.firm(0, 1, 1800, 1800, 5), Checks.FULL);
    }

    private static void firmRefused(GhostSigns x, int want) {
        Checks.due("firm: sheet 4", x.firm(4, 1, 1800, 1800, Checks.NONE), want);
        Checks.due("firm: sheet -1", x.firm(-1, 1, 1800, 1800, Checks.NONE), want);
        Checks.due("firm: number 0", x.firm(3, 0, 1800, 1800, Checks.NONE), want);
        Checks.due("firm: number 201", x.firm(3, 201, 1800, 1800, Checks.NONE), want);
        Checks.due("firm: from 1699", x.firm(3, 1, 1699, 1800, Checks.NONE), want);
        Checks.due("firm: to 2101", x.firm(3, 1, 1800, 2101, Checks.NONE), want);
        Checks.due("firm: from above to", x.firm(3, 1, 1801, 1800, Checks.NONE), want);
        Checks.due("firm: of 16", x.firm(3, 1, 1800, 1800, 16), want);
        Checks.due("firm: of -1", x.firm(3, 1, 1800, 1800, -1), want);
        Checks.due("firm: of -8", x.firm(3, 1, 1800, 1800, -8), want);
    }

    /** Promise 9. */
    private static void slogan() {
        GhostSigns x = new GhostSigns();
        Checks.firm(x, "ab", 12, 1750, 1760, Checks.NONE);
        Checks.firm(x, "ab", 13, 1761, 1770, 0);
        Checks.due("slogan of a firm", Checks.slogan(x, "abc", 0), 2);
        Checks.due("slogan of an heir", Checks.slogan(x, "a", 1), 3);
        Checks.due("its kind", x.told(2, 0), 3);
        Checks.due("its letters", x.told(2, 1), 3);
        Checks.due("its from", x.told(2, 3), 1750);
        Checks.due("its to", x.told(3, 4), 1770);
        Checks.due("its number", x.told(3, 5), 13);
        Checks.word(x, "a");
        Checks.word(x, "a");
        x.strike(5);
        Checks.due("sheet 4", x.slogan(4, 0), Checks.BAD);
        Checks.due("sheet -1", x.slogan(-1, 0), Checks.BAD);
        Checks.due("firm 6", x.slogan(0, 6), Checks.BAD);
        Checks.due("firm NONE", x.slogan(3, Checks.NONE), Checks.BAD);
        Checks.found(x, "no sheet, no firm", () -> x.slogan(0, 4), Checks.NOTHING);
        x.sheet(1, 0);
        Checks.found(x, "struck", () -> x.slogan(1, 5), Checks.NOTHING);
        Checks.found(x, "of a word", () -> x.slogan(1, 4), Checks.UNLIKE);
        Checks.found(x, "of a slogan", () -> x.slogan(1, 2), Checks.UNLIKE);
        Checks.found(x, "none", () -> x.slogan(1, 0), Checks.SIZE);
        x.sheet(1, 9);
        Checks.found(x, "nine", () -> x.slogan(1, 0), Checks.SIZE);
        Checks.fillWords(x);
        Checks.due("BAD ahead of FULL", x.slogan(0, 16), Checks.BAD);
        Checks.due("FULL ahead of NOTHING", x.slogan(0, 5), Checks.FULL);
        Checks.due("FULL", x.slogan(3, 0), Checks.FULL);
    }

    /** Promise 10. */
    private static void strike() {
        GhostSigns x = new GhostSigns();
        Checks.due("none to strike", x.strike(0), Checks.BAD);
        Checks.firm(x, "a", 1, 1800, 1800, Checks.NONE);
        Checks.firm(x, "a", 1, 1800, 1800, 0);
        Checks.slogan(x, "a", 1);
        Checks.word(x, "a");
        Checks.due("strike(-1)", x.strike(-1), Checks.BAD);
        Checks.due("strike(4)", x.strike(4), Checks.BAD);
        x.layer(2, 3, 0, 3);
        Checks.due("an heir needs it", x.strike(0), Checks.STATE);
        Checks.due("a slogan needs it", x.strike(1), Checks.STATE);
        Checks.due("a layer needs it", x.strike(3), Checks.STATE);
        Checks.due("none is struck", x.count(1), 4);
        Checks.due("slogan", x.strike(2), 1);
        Checks.due("heir without slogan", x.strike(1), 1);
        Checks.due("firm without heir", x.strike(0), 1);
        x.bare(2);
        for (int line = 0; line < 4; line++) {
            x.layer(line, 3, 9, 1);
            Checks.due("a layer of line " + line + " needs it", x.strike(3), Checks.STATE);
            x.bare(line);
        }
        x.read(0, 3);
        Checks.due("word without layer, though read", x.strike(3), 1);
        Checks.found(x, "struck already", () -> x.strike(3), Checks.NOTHING);
        Checks.found(x, "struck firm", () -> x.strike(0), Checks.NOTHING);
        Checks.due("all struck", x.count(1), 0);
        Checks.due("ever", x.count(0), 4);
    }

    /** Promise 11. */
    private static void told() {
        GhostSigns x = new GhostSigns();
        x.letter('a', 7);
        x.letter('b', 32767);
        Checks.word(x, "aba");
        Checks.firm(x, "a", 33, 1811, 1822, Checks.NONE);
        int[] ofWord = {0, 3, 21, Checks.NONE, Checks.NONE, Checks.NONE};
        int[] ofFirm = {1, 1, 3, 1811, 1822, 33};
        for (int what = 0; what <= 5; what++) {
            Checks.due("told(0, " + what + ")", x.told(0, what), ofWord[what]);
            Checks.due("told(1, " + what + ")", x.told(1, what), ofFirm[what]);
        }
        x.letter('b', 1);
        Checks.due("cells are those of the letters now", x.told(0, 2), 7);
        Checks.word(x, "baaaaaab");
        Checks.due("cells of eight letters", x.told(2, 2), 20);
        Checks.due("told(0, 6)", x.told(0, 6), Checks.BAD);
        Checks.due("told(0, -1)", x.told(0, -1), Checks.BAD);
        Checks.due("told(3, 0)", x.told(3, 0), Checks.BAD);
        Checks.due("told(-1, 0)", x.told(-1, 0), Checks.BAD);
        x.strike(0);
        Checks.due("BAD ahead of NOTHING", x.told(0, 6), Checks.BAD);
        Checks.found(x, "struck", () -> x.told(0, 5), Checks.NOTHING);
    }

    /** Promise 12. */
    private static void mark() {
        GhostSigns x = new GhostSigns();
        Checks.word(x, "a");
        Checks.firm(x, "a", 1, 1800, 1800, Checks.NONE);
        Checks.firm(x, "a", 1, 1800, 1800, 1);
        Checks.firm(x, "a", 1, 1800, 1800, 2);
        Checks.slogan(x, "a", 1);
        Checks.slogan(x, "a", 3);
        Checks.slogan(x, "a", 3);
        Checks.due("firm", x.mark(1, 1), 2);
        Checks.due("heir as firm", x.mark(2, 1), 1);
        Checks.due("heir's slogans", x.mark(3, 1), 2);
        Checks.due("heir of the first", x.mark(2, 2), 1);
        Checks.due("heir of an heir", x.mark(3, 2), 1);
        Checks.due("slogan", x.mark(5, 3), 3);
        x.strike(6);
        Checks.due("struck slogans are missing", x.mark(3, 1), 1);
        Checks.due("kind 0", x.mark(0, 0), Checks.BAD);
        Checks.due("kind 4", x.mark(1, 4), Checks.BAD);
        Checks.due("word 7", x.mark(7, 1), Checks.BAD);
        Checks.due("word -1", x.mark(-1, 1), Checks.BAD);
        Checks.due("BAD ahead of NOTHING", x.mark(6, 0), Checks.BAD);
        Checks.found(x, "struck, of another kind", () -> x.mark(6, 1), Checks.NOTHING);
        Checks.found(x, "a word is no firm", () -> x.mark(0, 1), Checks.UNLIKE);
        Checks.found(x, "a firm is no heir", () -> x.mark(1, 2), Checks.UNLIKE);
        Checks.found(x, "a slogan is no firm", () -> x.mark(4, 1), Checks.UNLIKE);
        Checks.found(x, "a slogan is no heir", () -> x.mark(4, 2), Checks.UNLIKE);
        Checks.found(x, "an heir is no slogan", () -> x.mark(2, 3), Checks.UNLIKE);
    }

    /** Promise 13. */
    private static void mean() {
        GhostSigns x = new GhostSigns();
        Checks.found(x, "mean of none", x::mean, Checks.NOUGHT);
        Checks.word(x, "abc");
        Checks.due("mean of one", x.mean(), 3);
        Checks.word(x, "abcdefgh");
        Checks.due("mean of two, cut", x.mean(), 5);
        x.strike(0);
        Checks.due("mean without the struck", x.mean(), 8);
        x.strike(1);
        Checks.found(x, "mean of struck ones", x::mean, Checks.NOUGHT);
    }
}
