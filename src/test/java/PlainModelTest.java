import java.util.Random;

/** Runs of 512 calls with ordinary and wrong numbers, each answer held against PlainModel. */
public final class PlainModelTest {
    private static final int RUNS = 3000, CALLS = 512, MOST_AT_ONCE = 50;
    private static final int[] FAR = {Integer.MIN_VALUE, -10, -9, -1, 11, 16, 201, 32768, Integer.MAX_VALUE};

    private final Random random;
    private final int wrongness;
    private final int letters;
    private final int manyCells;
    private final GhostSigns x = new GhostSigns();
    private final PlainModel y = new PlainModel();
    private String call = "";
    private long want;
    private int calls;

    private PlainModelTest(long seed) {
        random = new Random(seed);
        wrongness = seed % 3 == 0 ? 20 : 200;
        letters = 1 + (int) (seed % 5);
        manyCells = (int) (seed % 4);
    }

    public static void main(String[] args) {
        for (int seed = 0; seed < RUNS; seed++) {
            new PlainModelTest(seed).run(seed);
        }
        Checks.finish();
    }

    private void run(int seed) {
        begin();
        while (calls < CALLS - MOST_AT_ONCE) {
            int turn = random.nextInt(48);
            if (turn == 0) {
                paint();
            } else {
                long got = turn < 14 ? first(turn) : turn < 30 ? second(turn) : third(turn);
                Checks.due("seed " + seed + ", call " + calls + ": " + call, got, want);
            }
            Checks.due("seed " + seed + ", call " + calls + ": finding() behind " + call, x.finding(), y.finding());
            Checks.due("seed " + seed + ", call " + calls + ": asked() behind " + call, x.asked(), y.asked());
            calls += 2;
        }
        Checks.due("seed " + seed + ": digest()", x.digest(), y.digest());
    }

    private long due(String name, long got, long wanted, int... with) {
        call = name + java.util.Arrays.toString(with);
        want = wanted;
        calls++;
        return got;
    }

    private void both(String name, long got, long wanted, int... with) {
        Checks.due("at once: " + name + java.util.Arrays.toString(with), got, wanted);
        calls++;
    }

    /** Some letters and words, so that the calls that follow have something to tell of. */
    private void begin() {
        for (int c = 97; c <= 97 + letters; c++) {
            int bits = random.nextInt(8) | random.nextInt(32768) & random.nextInt(32768) & random.nextInt(32768);
            both("letter", x.letter(c, bits), y.letter(c, bits), c, bits);
        }
        int many = random.nextInt(7);
        for (int i = 0; i < many; i++) {
            int n = 1 + random.nextInt(3);
            both("sheet", x.sheet(0, n), y.sheet(0, n), 0, n);
            for (int j = 0; j < n; j++) {
                int c = 97 + random.nextInt(letters + 1);
                both("lay", x.lay(0, j, c), y.lay(0, j, c), 0, j, c);
            }
            if (random.nextBoolean()) {
                both("word", x.word(0), y.word(0), 0);
            } else {
                int from = 1895 + random.nextInt(10);
                int to = from + random.nextInt(10);
                both("firm", x.firm(0, 1, from, to, -9), y.firm(0, 1, from, to, -9), 0, 1, from, to, -9);
            }
        }
    }

    /** A line is seen as two words through one another, of which some cells faded, would leave it. */
    private void paint() {
        if (y.count(0) == 0) {
            return;
        }
        int line = random.nextInt(2);
        int beneath = random.nextInt(y.count(0));
        int over = random.nextInt(y.count(0));
        int slot = random.nextInt(6);
        int at = random.nextInt(6);
        int colour = 1 + random.nextInt(3);
        int other = colour % 3 + 1;
        int fading = 1 + random.nextInt(12);
        for (int s = 0; s < 10; s++) {
            int[] cells = new int[5];
            for (int cell = 0; cell < 15; cell++) {
                int v = 0;
                if (y.has(beneath, slot, s, cell) && random.nextInt(fading) > 0) {
                    v = colour;
                }
                if (y.has(over, at, s, cell) && random.nextInt(fading) > 0) {
                    v = other;
                }
                cells[random.nextInt(3) == 0 ? 4 : v] |= 1 << cell;
            }
            for (int v : new int[] {0, colour, other, 4}) {
                both("see", x.see(line, s, cells[v], v), y.see(line, s, cells[v], v), line, s, cells[v], v);
            }
        }
    }

    private int any(int least, int most) {
        int turn = random.nextInt(wrongness);
        if (turn == 0) {
            return FAR[random.nextInt(FAR.length)];
        }
        if (turn == 1) {
            return random.nextBoolean() ? least - 1 : most + 1;
        }
        return least + random.nextInt(most - least + 1);
    }

    private int line() {
        return any(0, manyCells == 0 ? 0 : 1);
    }

    private int slot() {
        return any(0, 9);
    }

    private int colour() {
        return any(1, 3);
    }

    private int aWord() {
        return any(0, Math.max(0, y.count(0) - 1));
    }

    private int year() {
        return random.nextInt(6) == 0 ? any(1700, 2100) : any(1898, 1904);
    }

    private int number() {
        return random.nextInt(4) == 0 ? any(1, 200) : any(1, 2);
    }

    private int cells() {
        if (random.nextInt(wrongness) == 0) {
            return any(0, 32767);
        }
        return manyCells < 2 ? 1 << random.nextInt(4) : random.nextInt(8) | random.nextInt(32768) & 9;
    }

    /** Letters and sheets; now and then a whole sheet is written anew so that words differ. */
    private long first(int turn) {
        int s = any(0, 3);
        int a = slot();
        int b = slot();
        switch (turn) {
            case 1: {
                int c = any(97, 97 + letters);
                int bits = random.nextInt(5) == 0 ? any(0, 32767) : any(0, 31);
                return due("letter", x.letter(c, bits), y.letter(c, bits), c, bits);
            }
            case 2: case 3: {
                int n = random.nextInt(3) == 0 ? any(0, 10) : any(1, 3);
                return due("sheet", x.sheet(s, n), y.sheet(s, n), s, n);
            }
            case 4: case 5: case 6: {
                int v = random.nextInt(4) == 0 ? random.nextInt() : any(97, 97 + letters);
                int i = random.nextInt(2) == 0 ? a : any(0, 2);
                return due("lay", x.lay(s, i, v), y.lay(s, i, v), s, i, v);
            }
            case 7:
                if (random.nextInt(3) > 0) {
                    return due("mean", x.mean(), y.mean());
                }
                return due("tear", x.tear(s), y.tear(s), s);
            case 8: {
                int to = any(0, 3);
                int n = any(0, 5);
                return due("copy", x.copy(s, a, to, b, n), y.copy(s, a, to, b, n), s, a, to, b, n);
            }
            case 9: case 10:
                return due("word", x.word(s), y.word(s), s);
            case 11: case 12: {
                int n = number();
                int from = year();
                int to = random.nextInt(5) == 0 ? year() : from + random.nextInt(6);
                int of = random.nextInt(2) == 0 ? -9 : aWord();
                return due("firm", x.firm(s, n, from, to, of), y.firm(s, n, from, to, of), s, n, from, to, of);
            }
            default: {
                int firm = aWord();
                return due("slogan", x.slogan(s, firm), y.slogan(s, firm), s, firm);
            }
        }
    }

    private long second(int turn) {
        int word = aWord();
        int line = line();
        int slot = slot();
        int colour = colour();
        switch (turn) {
            case 14: {
                return due("strike", x.strike(word), y.strike(word), word);
            }
            case 15: {
                int what = any(0, 5);
                return due("told", x.told(word, what), y.told(word, what), word, what);
            }
            case 16: {
                int kind = any(1, 3);
                return due("mark", x.mark(word, kind), y.mark(word, kind), word, kind);
            }
            case 17: case 18: case 19: {
                int cells = cells();
                int v = any(0, 4);
                int at = any(0, manyCells == 0 ? 1 : 4);
                return due("see", x.see(line, at, cells, v), y.see(line, at, cells, v), line, at, cells, v);
            }
            case 20: {
                int cell = any(0, 14);
                return due("seen", x.seen(line, slot, cell), y.seen(line, slot, cell), line, slot, cell);
            }
            case 21: {
                int n = x.lack(line, word, slot, colour);
                return due("lack", n, y.lack(line, word, slot, colour), line, word, slot, colour);
            }
            case 22: case 23:
                return due("reading", x.reading(line, colour), y.reading(line, colour), line, colour);
            case 24:
                return due("rivals", x.rivals(line, colour), y.rivals(line, colour), line, colour);
            case 25: {
                int n = x.layer(line, word, slot, colour);
                return due("layer", n, y.layer(line, word, slot, colour), line, word, slot, colour);
            }
            case 26: {
                if (random.nextInt(3) > 0) {
                    int i = any(0, 3);
                    int what = any(0, 2);
                    return due("layerTold", x.layerTold(line, i, what), y.layerTold(line, i, what), line, i, what);
                }
                return due("bare", x.bare(line), y.bare(line), line);
            }
            case 27: case 28:
                return due("faded", x.faded(line), y.faded(line), line);
            default: {
                int b = random.nextInt(20) == 0 ? colour() : colour % 3 + 1;
                int n = random.nextInt(2) == 0 ? any(1, 20000) : any(1, 300);
                return due("two", x.two(line, colour, b, n), y.two(line, colour, b, n), line, colour, b, n);
            }
        }
    }

    private long third(int turn) {
        int word = aWord();
        int line = line();
        int colour = colour();
        switch (turn) {
            case 30: {
                int year = random.nextInt(3) == 0 ? year() : any(1890, 1900);
                int u = any(1, 3);
                int v = random.nextInt(2) == 0 ? any(-100, 100) : any(-2, 2);
                return due("renumber", x.renumber(year, u, v), y.renumber(year, u, v), year, u, v);
            }
            case 31: case 32: {
                int n = any(1, 200);
                int year = year();
                int other = year();
                return due("number", x.number(n, year, other), y.number(n, year, other), n, year, other);
            }
            case 33: {
                int n = number();
                int year = year();
                return due("address", x.address(n, year), y.address(n, year), n, year);
            }
            case 34: case 35: {
                boolean last = random.nextBoolean();
                return due("span", x.span(word, last), y.span(word, last), word, last ? 1 : 0);
            }
            case 36:
                return due("agrees", x.agrees(line), y.agrees(line), line);
            case 37: case 38: {
                int light = any(0, 5);
                int at = any(0, 4);
                int bits = random.nextInt(32768);
                return due("light", x.light(light, line, at, bits), y.light(light, line, at, bits), light, line, at, bits);
            }
            case 39: {
                int light = any(0, 5);
                return due("gain", x.gain(light, line, colour), y.gain(light, line, colour), light, line, colour);
            }
            case 40:
                return due("next", x.next(line, colour), y.next(line, colour), line, colour);
            case 41:
                return due("read", x.read(line, word), y.read(line, word), line, word);
            case 42:
                return due("spread", x.spread(line), y.spread(line), line);
            case 43: {
                int worth = any(0, 5);
                int cost = any(1, 5);
                boolean leave = random.nextInt(4) > 0;
                return due("wall", x.wall(worth, cost, leave), y.wall(worth, cost, leave), worth, cost, leave ? 1 : 0);
            }
            case 44: {
                int budget = random.nextInt(5) == 0 ? any(0, 12000) : any(0, 30);
                return due("keep", x.keep(budget), y.keep(budget), budget);
            }
            case 45: {
                int what = any(0, 5);
                return due("count", x.count(what), y.count(what), what);
            }
            case 46: {
                int f = any(1, 5);
                return due("findings", x.findings(f), y.findings(f), f);
            }
            default:
                return due("digest", x.digest(), y.digest());
        }
    }
}
