/** Promises 24 to 28 at every bound that the document names. */
public final class StreetBoundsTest {
    private static final int MIN = Scenes.MIN, MAX = Scenes.MAX, NONE = Checks.NONE;

    public static void main(String[] args) {
        renumber();
        renumberAtMost();
        number();
        numberCut();
        numberEightTimes();
        address();
        span();
        spanInYears();
        spanAtTheEnds();
        agrees();
        agreesByAYear();
        agreesAtTheEnds();
        Checks.finish();
    }

    /** Promise 24: lived() was numbered anew twice, the latest time in 1900. */
    private static void renumber() {
        new Edge("24: renumber(year, 1, 0)", Scenes::lived, (x, year) -> x.renumber(year, 1, 0))
                .takes(1901, 3).takes(2100, 3).bad(1700, 1840, 1899, 1900).bad(Scenes.noYear());
        new Edge("24: the first time, renumber(year, 1, 0)", GhostSigns::new, (x, year) -> x.renumber(year, 1, 0))
                .takes(1700, 1).takes(2100, 1).bad(Scenes.noYear());
        new Edge("24: renumber(1950, u, 0)", Scenes::lived, (x, u) -> x.renumber(1950, u, 0))
                .takes(1, 3).takes(2, 3).takes(3, 3).bad(MIN, -1, 0, 4, MAX);
        new Edge("24: renumber(1950, 1, v)", Scenes::lived, (x, v) -> x.renumber(1950, 1, v))
                .takes(-100, 3).takes(0, 3).takes(100, 3).bad(MIN, -101, 101, MAX);
        new Edge("24: in the last year, renumber(year, 1, 0)", StreetBoundsTest::inTheLastYear,
                (x, year) -> x.renumber(year, 1, 0)).bad(2099, 2100, 2101);
    }

    private static GhostSigns inTheLastYear() {
        GhostSigns x = new GhostSigns();
        x.renumber(2100, 1, 0);
        return x;
    }

    /** Promise 24: up to 8 times; BAD ahead of FULL. */
    private static void renumberAtMost() {
        GhostSigns x = new GhostSigns();
        for (int times = 1; times <= 8; times++) {
            Checks.due("24: time " + times, x.renumber(1700 + times, 1, 1), times);
        }
        Checks.due("24: a ninth time", x.renumber(1709, 1, 1), Checks.FULL);
        new Edge("24: FULL, renumber(year, 1, 0)", Scenes::full, (y, year) -> y.renumber(year, 1, 0))
                .full(1971, 2100).bad(1970, 1969, 1700).bad(Scenes.noYear());
        new Edge("24: BAD ahead of FULL, renumber(2000, u, 0)", Scenes::full, (y, u) -> y.renumber(2000, u, 0))
                .full(1, 3).bad(0, 4);
        new Edge("24: BAD ahead of FULL, renumber(2000, 1, v)", Scenes::full, (y, v) -> y.renumber(2000, 1, v))
                .full(-100, 100).bad(-101, 101);
    }

    /** Promise 25: in lived() NUMBERS are doubled in 1840, and 3 less in 1900. */
    private static void number() {
        new Edge("25: number(n, 1900, 2100)", Scenes::lived, (x, n) -> x.number(n, 1900, 2100))
                .leaves(1, 1).leaves(200, 200).bad(Scenes.noNumber());
        new Edge("25: number(20, year, 1950)", Scenes::lived, (x, year) -> x.number(20, year, 1950))
                .leaves(1700, 37).leaves(1839, 37).leaves(1840, 17).leaves(1899, 17).leaves(1900, 20)
                .leaves(1950, 20).leaves(1951, NONE).leaves(2100, NONE).bad(Scenes.noYear());
        new Edge("25: number(20, 1839, other)", Scenes::lived, (x, other) -> x.number(20, 1839, other))
                .leaves(1700, NONE).leaves(1838, NONE).leaves(1839, 20).leaves(1840, 40).leaves(1899, 40)
                .leaves(1900, 37).leaves(2100, 37).bad(Scenes.noYear());
        new Edge("25: of the first year, number(20, 1700, other)", Scenes::lived,
                (x, other) -> x.number(20, 1700, other))
                .leaves(1700, 20).leaves(2100, 37).bad(1699);
        new Edge("25: of the last year, number(20, 2100, other)", Scenes::lived,
                (x, other) -> x.number(20, 2100, other))
                .leaves(2100, 20).leaves(2099, NONE).leaves(1700, NONE).bad(2101, 1699);
        Cases.bad("25: BAD ahead of NONE, NUMBER", Scenes::lived, x -> x.number(0, 1900, 1800));
        Cases.bad("25: BAD ahead of NONE, year", Scenes::lived, x -> x.number(1, 2101, 1800));
        Cases.bad("25: BAD ahead of NONE, other", Scenes::lived, x -> x.number(1, 1900, 1699));
    }

    /** Promise 25: cut to 1 .. 200 as the nearest, and each time. */
    private static void numberCut() {
        int[][] cuts = {
            {1, -1, 1, 1}, {1, -1, 2, 1}, {1, -1, 3, 2}, {1, -100, 1, 1}, {1, -100, 100, 1}, {1, -100, 101, 1},
            {1, -100, 102, 2}, {1, -100, 200, 100}, {3, -100, 33, 1}, {3, -100, 34, 2}, {3, -100, 100, 200},
            {3, -100, 101, 200}, {1, 100, 99, 199}, {1, 100, 100, 200}, {1, 100, 101, 200}, {3, 100, 200, 200},
            {2, 0, 100, 200}, {2, 0, 101, 200}, {2, 0, 99, 198}, {3, 0, 66, 198}, {3, 0, 67, 200}, {1, 0, 1, 1}
        };
        for (int[] cut : cuts) {
            GhostSigns x = new GhostSigns();
            x.renumber(1800, cut[0], cut[1]);
            String name = "25: " + cut[2] + " times " + cut[0] + " and " + cut[1];
            Checks.due(name, x.number(cut[2], 1799, 1800), cut[3]);
            Checks.due(name + ", not yet", x.number(cut[2], 1700, 1799), cut[2]);
            Checks.due(name + ", no more", x.number(cut[2], 1800, 2100), cut[2]);
        }
        GhostSigns y = new GhostSigns();
        y.renumber(1800, 1, -100);
        y.renumber(1801, 1, 50);
        y.renumber(1802, 3, 100);
        y.renumber(1803, 1, -60);
        Checks.due("25: cut below, then on", y.number(50, 1700, 1801), 51);
        Checks.due("25: cut above, then on", y.number(50, 1700, 1803), 140);
    }

    /** Promise 25: by all of eight times, and by those above the one year and not above the other. */
    private static void numberEightTimes() {
        GhostSigns x = new GhostSigns();
        for (int times = 1; times <= 8; times++) {
            x.renumber(1700 + times, 1, 10);
        }
        for (int year = 1700; year <= 1708; year++) {
            Checks.due("25: from the first year on", x.number(5, 1700, year), 5 + 10 * (year - 1700));
            Checks.due("25: up to the last year", x.number(5, year, 2100), 5 + 10 * (1708 - year));
        }
        GhostSigns first = new GhostSigns();
        first.renumber(1700, 1, 10);
        first.renumber(2100, 1, 10);
        Checks.due("25: none is above the last, or below the first year", first.number(5, 1700, 2099), 5);
        Checks.due("25: the last year is not above itself", first.number(5, 1700, 2100), 15);
    }

    /** Promise 26. */
    private static void address() {
        new Edge("26: address(n, 1850)", Scenes::lived, (x, n) -> x.address(n, 1850))
                .takes(1, 1).takes(200, 1).bad(Scenes.noNumber());
        new Edge("26: address(24, year)", Scenes::lived, (x, year) -> x.address(24, year))
                .takes(1700, 1).takes(2100, 1).bad(Scenes.noYear());
        Cases.bad("26: both", Scenes::lived, x -> x.address(0, 1699));
        int[] numbers = {1, 200};
        int[] years = {1700, 2100};
        for (int n : numbers) {
            for (int year : years) {
                GhostSigns x = new GhostSigns();
                int there = Checks.firm(x, "a", n, year, year, NONE);
                int beside = Checks.firm(x, "a", n == 1 ? 2 : 199, year, year, NONE);
                x.address(n, year);
                Checks.due("26: at NUMBER " + n + " in " + year, x.span(there, true), year);
                Checks.due("26: beside NUMBER " + n + " in " + year, x.span(beside, true), NONE);
            }
        }
    }

    /** Promise 27: THE WALL of lived() has NUMBER 24 as of 1880. */
    private static void span() {
        new Edge("27: span(word, false)", Scenes::lived, (x, word) -> x.span(word, false))
                .leaves(Scenes.PLAIN, 1700).leaves(Scenes.FIRM, 1800).leaves(Scenes.HEIR, NONE)
                .leaves(Scenes.SLOGAN, NONE).leaves(Scenes.LONG, 1700).leaves(Scenes.LAST_IN_WALLS_YEAR, 1850)
                .leaves(Scenes.LAST_A_YEAR_BEFORE, NONE).bad(Scenes.noWord()).finds(Checks.NOTHING, Scenes.STRUCK);
        new Edge("27: span(word, true)", Scenes::lived, (x, word) -> x.span(word, true))
                .leaves(Scenes.PLAIN, 2100).leaves(Scenes.FIRM, 1900).leaves(Scenes.HEIR, NONE)
                .leaves(Scenes.SLOGAN, NONE).leaves(Scenes.LONG, 2100).leaves(Scenes.LAST_IN_WALLS_YEAR, 1880)
                .leaves(Scenes.LAST_A_YEAR_BEFORE, NONE).bad(Scenes.noWord()).finds(Checks.NOTHING, Scenes.STRUCK);
        Cases.bad("27: no WORDS", GhostSigns::new, x -> x.span(0, false));
        Cases.finds("27: NOTHING ahead of NONE", StreetBoundsTest::struckElsewhere,
                x -> x.span(Scenes.LAST_A_YEAR_BEFORE, true), Checks.NOTHING);
    }

    private static GhostSigns struckElsewhere() {
        GhostSigns x = Scenes.lived();
        x.strike(Scenes.LAST_A_YEAR_BEFORE);
        return x;
    }

    /** Promise 27: numbered anew in the first year, the last year, and the years beside these. */
    private static void spanInYears() {
        int[] anew = {1799, 1800, 1801, 1849, 1850, 1851};
        int[] inLastYear = {20, 20, 40, 40, 40, 20};
        for (int i = 0; i < anew.length; i++) {
            GhostSigns x = new GhostSigns();
            x.renumber(anew[i], 2, 0);
            int firm = Checks.firm(x, "a", 20, 1800, 1850, NONE);
            Checks.slogan(x, "a", firm);
            int heir = Checks.firm(x, "a", 20, 1800, 1850, firm);
            for (int word = firm; word <= heir; word++) {
                x.address(inLastYear[i], 1850);
                Checks.due("27: anew in " + anew[i] + ", WORD " + word, x.span(word, true), 1850);
                x.address(60 - inLastYear[i], 1850);
                Checks.due("27: anew in " + anew[i] + ", elsewhere, WORD " + word, x.span(word, true), NONE);
                x.address(inLastYear[i], 1851);
                Checks.due("27: a year before THE WALL's, WORD " + word, x.span(word, false), NONE);
            }
        }
        GhostSigns y = new GhostSigns();
        y.renumber(1850, 2, 0);
        int firm = Checks.firm(y, "a", 40, 1850, 1850, NONE);
        y.address(20, 1849);
        Checks.due("27: THE WALL's NUMBER becomes the FIRM's in its last year", y.span(firm, true), 1850);
        y.address(20, 1850);
        Checks.due("27: THE WALL's NUMBER of that year does not", y.span(firm, true), NONE);
    }

    /** Promise 27: the first and the last of all years. */
    private static void spanAtTheEnds() {
        GhostSigns x = new GhostSigns();
        int all = Checks.firm(x, "a", 7, 1700, 2100, NONE);
        int first = Checks.firm(x, "a", 7, 1700, 1700, NONE);
        int last = Checks.firm(x, "a", 7, 2100, 2100, NONE);
        x.address(7, 1700);
        Checks.due("27: all years, from", x.span(all, false), 1700);
        Checks.due("27: all years, to", x.span(all, true), 2100);
        Checks.due("27: the first year", x.span(first, true), 1700);
        Checks.due("27: the last year", x.span(last, false), 2100);
        x.address(7, 2100);
        Checks.due("27: all years, as of 2100", x.span(all, false), 1700);
        Checks.due("27: the first year, as of 2100", x.span(first, false), NONE);
        Checks.due("27: the last year, as of 2100", x.span(last, true), 2100);
    }

    /** Promise 28. */
    private static void agrees() {
        new Edge("28: agrees(line)", Scenes::lived, (x, line) -> x.agrees(line))
                .leaves(Scenes.ONE_LAYER, 1700).leaves(Scenes.THREE_LAYERS, NONE)
                .leaves(Scenes.NO_LAYERS, Checks.STATE).leaves(Scenes.UNTOUCHED, Checks.STATE).bad(Scenes.noLine());
        Cases.bad("28: BAD ahead of STATE", GhostSigns::new, x -> x.agrees(4));
        Cases.leaves("28: no LAYERS", GhostSigns::new, x -> x.agrees(0), Checks.STATE);
        GhostSigns x = Scenes.lived();
        x.bare(Scenes.ONE_LAYER);
        Checks.due("28: no LAYERS any more", x.agrees(Scenes.ONE_LAYER), Checks.STATE);
    }

    /** Promise 28: LAYERS of FIRMS at THE WALL, with these years from the lowest up. */
    private static void agree(String name, long want, int... years) {
        GhostSigns x = new GhostSigns();
        x.address(5, 1700);
        for (int i = 0; i < years.length; i += 2) {
            int firm = Checks.firm(x, "a", 5, years[i], years[i + 1], NONE);
            x.layer(0, firm, 0, 1 + i / 2);
        }
        Checks.due("28: " + name, x.agrees(0), want);
    }

    /** Promise 28: none earlier than that beneath; the same year will do. */
    private static void agreesByAYear() {
        agree("one", 1850, 1850, 1900);
        agree("the same year", 1850, 1850, 1900, 1800, 1850);
        agree("a year too early", NONE, 1850, 1900, 1800, 1849);
        agree("a year later", 1851, 1850, 1900, 1800, 1851, 1851, 1851);
        agree("three in one year", 1850, 1850, 1850, 1850, 1850, 1850, 1850);
        agree("the third in the year of the lowest", 1850, 1850, 1900, 1800, 1900, 1800, 1850);
        agree("the third a year too early", NONE, 1850, 1900, 1800, 1900, 1800, 1849);
        agree("the third a year earlier than the second", NONE, 1800, 1900, 1850, 1900, 1800, 1849);
        agree("each later", 1870, 1850, 1860, 1860, 1870, 1870, 1880);
        agree("earlier than it could be, were it alone", 1860, 1850, 1860, 1860, 1870, 1700, 2100);
    }

    /** Promise 28: the first and the last of all years, and a WORD of KIND 0. */
    private static void agreesAtTheEnds() {
        agree("the last year", 2100, 2100, 2100, 1700, 2100, 2100, 2100);
        agree("the first year", 1700, 1700, 1700, 1700, 2100, 1700, 1700);
        agree("the last beneath the first", NONE, 2100, 2100, 1700, 1700);
        GhostSigns x = new GhostSigns();
        x.address(5, 2100);
        int last = Checks.firm(x, "a", 5, 2100, 2100, NONE);
        int word = Checks.word(x, "a");
        int away = Checks.firm(x, "a", 6, 2100, 2100, NONE);
        x.layer(0, last, 0, 1);
        x.layer(0, word, 0, 2);
        Checks.due("28: a WORD of KIND 0 above the last year", x.agrees(0), 2100);
        x.layer(1, word, 0, 1);
        x.layer(1, last, 0, 2);
        Checks.due("28: a WORD of KIND 0 beneath the last year", x.agrees(1), 2100);
        for (int place = 0; place < 3; place++) {
            x.bare(2);
            for (int i = 0; i < 3; i++) {
                x.layer(2, i == place ? away : word, 0, 1 + i);
            }
            Checks.due("28: LAYER " + place + " has no SPAN", x.agrees(2), NONE);
        }
    }
}
