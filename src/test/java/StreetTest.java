/** Promises 24 to 28. */
public final class StreetTest {
    public static void main(String[] args) {
        renumber();
        number();
        address();
        span();
        agrees();
        agreesOnEarliest();
        Checks.finish();
    }

    /** Promise 24. */
    private static void renumber() {
        GhostSigns x = new GhostSigns();
        Checks.due("the first year", x.renumber(1700, 1, -100), 1);
        Checks.due("alike", x.renumber(1700, 1, 0), Checks.BAD);
        Checks.due("the next year", x.renumber(1701, 3, 100), 2);
        Checks.due("earlier", x.renumber(1700, 1, 0), Checks.BAD);
        Checks.due("year 1699", new GhostSigns().renumber(1699, 1, 0), Checks.BAD);
        Checks.due("year 2101", x.renumber(2101, 1, 0), Checks.BAD);
        Checks.due("u 0", x.renumber(1800, 0, 0), Checks.BAD);
        Checks.due("u 4", x.renumber(1800, 4, 0), Checks.BAD);
        Checks.due("v -101", x.renumber(1800, 1, -101), Checks.BAD);
        Checks.due("v 101", x.renumber(1800, 1, 101), Checks.BAD);
        for (int i = 3; i <= 8; i++) {
            Checks.due("time " + i, x.renumber(1800 + i, 1, 0), i);
        }
        Checks.due("a ninth time", x.renumber(2100, 1, 0), Checks.FULL);
        Checks.due("BAD ahead of FULL", x.renumber(1808, 1, 0), Checks.BAD);
        Checks.due("only eight", x.number(7, 1808, 2100), 7);
    }

    /** Promise 25. */
    private static void number() {
        GhostSigns x = new GhostSigns();
        Checks.due("never anew", x.number(200, 1700, 2100), 200);
        x.renumber(1800, 3, -100);
        x.renumber(1850, 2, 50);
        x.renumber(1900, 1, -60);
        Checks.due("the same year", x.number(50, 1800, 1800), 50);
        Checks.due("ahead of it", x.number(50, 1700, 1799), 50);
        Checks.due("in it", x.number(50, 1799, 1800), 50);
        Checks.due("times u and v", x.number(60, 1799, 1800), 80);
        Checks.due("cut below", x.number(20, 1700, 1849), 1);
        Checks.due("cut above", x.number(200, 1700, 1849), 200);
        Checks.due("cut each time", x.number(20, 1700, 2100), 1);
        Checks.due("all three", x.number(60, 1799, 1900), 200 - 60);
        Checks.due("the latter two", x.number(60, 1800, 2000), 170 - 60);
        Checks.due("backwards", x.number(60, 1800, 1799), Checks.NONE);
        Checks.due("n 0", x.number(0, 1800, 1900), Checks.BAD);
        Checks.due("n 201", x.number(201, 1800, 1900), Checks.BAD);
        Checks.due("year 1699", x.number(1, 1699, 1900), Checks.BAD);
        Checks.due("year 2101", x.number(1, 2101, 2100), Checks.BAD);
        Checks.due("other 1699", x.number(1, 1700, 1699), Checks.BAD);
        Checks.due("other 2101", x.number(1, 1800, 2101), Checks.BAD);
    }

    /** Promise 26. */
    private static void address() {
        GhostSigns x = new GhostSigns();
        int firm = Checks.firm(x, "a", 200, 1700, 1700, Checks.NONE);
        Checks.due("address", x.address(200, 1700), 1);
        Checks.due("it is there", x.span(firm, true), 1700);
        Checks.due("n 0", x.address(0, 1800), Checks.BAD);
        Checks.due("n 201", x.address(201, 1800), Checks.BAD);
        Checks.due("year 1699", x.address(1, 1699), Checks.BAD);
        Checks.due("year 2101", x.address(1, 2101), Checks.BAD);
        Checks.due("it is there still", x.span(firm, true), 1700);
        Checks.due("another year", x.address(200, 1701), 1);
        Checks.due("later than the firm", x.span(firm, true), Checks.NONE);
        Checks.due("another number", x.address(199, 1700), 1);
        Checks.due("elsewhere", x.span(firm, true), Checks.NONE);
    }

    /** Promise 27. */
    private static void span() {
        GhostSigns x = new GhostSigns();
        x.renumber(1850, 2, 0);
        int word = Checks.word(x, "a");
        int before = Checks.firm(x, "a", 20, 1800, 1849, Checks.NONE);
        int across = Checks.firm(x, "a", 20, 1800, 1850, before);
        int after = Checks.firm(x, "a", 40, 1850, 1860, before);
        int slogan = Checks.slogan(x, "a", across);
        x.address(20, 1840);
        Checks.due("a word from", x.span(word, false), 1700);
        Checks.due("a word to", x.span(word, true), 2100);
        Checks.due("a firm from", x.span(before, false), 1800);
        Checks.due("a firm to", x.span(before, true), 1849);
        Checks.due("both became another", x.span(across, true), 1850);
        Checks.due("the wall became it", x.span(after, false), 1850);
        Checks.due("a slogan from", x.span(slogan, false), 1800);
        x.address(40, 1850);
        Checks.due("a last year before the wall's", x.span(before, false), Checks.NONE);
        Checks.due("the firm became it", x.span(across, false), 1800);
        x.address(41, 1850);
        Checks.due("elsewhere", x.span(slogan, true), Checks.NONE);
        Checks.due("a word is anywhere", x.span(word, true), 2100);
        Checks.due("word 5", x.span(5, true), Checks.BAD);
        Checks.due("word -1", x.span(-1, true), Checks.BAD);
        x.strike(word);
        Checks.found(x, "struck", () -> x.span(word, true), Checks.NOTHING);
    }

    /** Promise 28. */
    private static void agrees() {
        GhostSigns x = new GhostSigns();
        Checks.due("no layers", x.agrees(0), Checks.STATE);
        Checks.due("line 4", x.agrees(4), Checks.BAD);
        Checks.due("line -1", x.agrees(-1), Checks.BAD);
        x.address(5, 1800);
        int old = Checks.firm(x, "a", 5, 1800, 1850, Checks.NONE);
        int young = Checks.firm(x, "a", 5, 1851, 1900, Checks.NONE);
        int away = Checks.firm(x, "a", 6, 1800, 1900, Checks.NONE);
        int word = Checks.word(x, "a");
        x.layer(0, old, 0, 1);
        Checks.due("one", x.agrees(0), 1800);
        x.layer(0, young, 0, 2);
        Checks.due("the younger over the old", x.agrees(0), 1851);
        x.layer(0, word, 0, 3);
        Checks.due("a word over both", x.agrees(0), 1851);
        x.layer(1, young, 0, 1);
        x.layer(1, old, 0, 2);
        Checks.due("the old over the younger", x.agrees(1), Checks.NONE);
        x.layer(2, away, 0, 1);
        Checks.due("without a span", x.agrees(2), Checks.NONE);
        x.layer(3, word, 0, 1);
        Checks.due("a word alone", x.agrees(3), 1700);
        x.layer(3, away, 0, 2);
        Checks.due("without a span over it", x.agrees(3), Checks.NONE);
    }

    /** Promise 28: spans that overlap in one year, and one beneath that is the later. */
    private static void agreesOnEarliest() {
        GhostSigns x = new GhostSigns();
        x.address(5, 1800);
        int late = Checks.firm(x, "a", 5, 1850, 1900, Checks.NONE);
        int early = Checks.firm(x, "a", 5, 1800, 1850, Checks.NONE);
        int long1 = Checks.firm(x, "a", 5, 1800, 1851, Checks.NONE);
        x.layer(0, late, 0, 1);
        x.layer(0, early, 0, 2);
        Checks.due("one year in both", x.agrees(0), 1850);
        x.layer(0, long1, 0, 3);
        Checks.due("none earlier than that beneath", x.agrees(0), 1850);
    }
}
