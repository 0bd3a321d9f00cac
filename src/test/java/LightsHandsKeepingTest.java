/** Promises 29 to 35. */
public final class LightsHandsKeepingTest {
    public static void main(String[] args) {
        light();
        gain();
        next();
        read();
        spread();
        wall();
        keep();
        keepTies();
        Checks.finish();
    }

    /** Words 0 "a" of cell 0, 1 "b" of cells 0 and 1, 2 "c" of cells 0 and 2; cell 0 of a slot seen. */
    private static GhostSigns withRivals() {
        GhostSigns x = new GhostSigns();
        x.letter('a', 1);
        x.letter('b', 3);
        x.letter('c', 5);
        Checks.word(x, "a");
        Checks.word(x, "b");
        Checks.word(x, "c");
        x.see(0, 6, 1, 2);
        return x;
    }

    /** Promise 29. */
    private static void light() {
        GhostSigns x = new GhostSigns();
        Checks.due("first", x.light(0, 0, 0, 1), 1);
        Checks.due("another light", x.light(5, 3, 9, 32767), 2);
        Checks.due("no cells", x.light(5, 3, 9, 0), 3);
        Checks.due("light 6", x.light(6, 0, 0, 1), Checks.BAD);
        Checks.due("light -1", x.light(-1, 0, 0, 1), Checks.BAD);
        Checks.due("line 4", x.light(0, 4, 0, 1), Checks.BAD);
        Checks.due("cells 32768", x.light(0, 0, 0, 32768), Checks.BAD);
        Checks.due("cells -1", x.light(0, 0, 0, -1), Checks.BAD);
        Checks.due("BAD ahead of BEYOND", x.light(6, 0, 10, 1), Checks.BAD);
        Checks.found(x, "slot 10", () -> x.light(0, 0, 10, 1), Checks.BEYOND);
        Checks.found(x, "slot -1", () -> x.light(0, 0, -1, 1), Checks.BEYOND);
        for (int i = 4; i <= 30; i++) {
            Checks.due("line " + i, x.light(i % 6, 0, 0, 1), i);
        }
        Checks.due("a 31st", x.light(0, 0, 0, 1), Checks.FULL);
        Checks.due("FULL ahead of BEYOND", x.light(0, 0, 10, 1), Checks.FULL);
        Checks.due("BAD ahead of FULL", x.light(6, 0, 0, 1), Checks.BAD);
    }

    /** Promise 30. */
    private static void gain() {
        GhostSigns x = withRivals();
        Checks.due("shows nothing", x.gain(0, 0, 2), 0);
        x.light(0, 0, 6, 2);
        Checks.due("one that some have", x.gain(0, 0, 2), 1);
        x.light(0, 0, 6, 2);
        Checks.due("shown twice", x.gain(0, 0, 2), 1);
        x.light(0, 0, 6, 32767);
        Checks.due("known, or that none has", x.gain(0, 0, 2), 2);
        x.light(0, 0, 5, 32767);
        x.light(0, 1, 6, 32767);
        Checks.due("another slot, another line", x.gain(0, 0, 2), 2);
        Checks.due("another light", x.gain(1, 0, 2), 0);
        x.see(0, 6, 2, 0);
        Checks.due("known now, and a word less", x.gain(0, 0, 2), 1);
        x.see(0, 6, 4, 2);
        Checks.due("one rival is alike to itself", x.gain(0, 0, 2), 0);
        x.see(0, 9, 1, 2);
        Checks.due("none can be there", x.gain(0, 0, 2), 0);
        Checks.due("light 6", x.gain(6, 0, 1), Checks.BAD);
        Checks.due("light -1", x.gain(-1, 0, 1), Checks.BAD);
        Checks.due("line 4", x.gain(0, 4, 1), Checks.BAD);
        Checks.due("colour 0", x.gain(0, 0, 0), Checks.BAD);
        Checks.due("colour 4", x.gain(0, 0, 4), Checks.BAD);
        gainAtTheEnds();
        GhostSigns y = withRivals();
        y.see(0, 6, 1, 4);
        y.light(2, 0, 6, 1);
        Checks.due("rivals in other slots", y.gain(2, 0, 1), 1);
    }

    /** Promise 30: cells of the first and the last slot, by the last of thirty lines. */
    private static void gainAtTheEnds() {
        for (int slot = 0; slot < 10; slot += 9) {
            GhostSigns x = withRivals();
            x.see(0, 6, 1, 4);
            x.see(0, slot, 1, 2);
            for (int i = 0; i < 29; i++) {
                x.light(4, 0, 6, 32767);
            }
            Checks.due("no rival is there", x.gain(4, 0, 2), 0);
            Checks.due("the thirtieth", x.light(4, 0, slot, 32767), 30);
            Checks.due("what some have and others not", x.gain(4, 0, 2), 2);
            Checks.due("what all have, seen or not", x.gain(4, 1, 2), 0);
        }
        GhostSigns y = new GhostSigns();
        y.letter('a', 1);
        Checks.word(y, "aaaaaaaa");
        y.see(0, 2, 1, 1);
        y.light(0, 0, 3, 1);
        Checks.due("all rivals have it", y.gain(0, 0, 1), 0);
        y.light(0, 0, 0, 1);
        Checks.due("some rivals have it", y.gain(0, 0, 1), 1);
    }

    /** Promise 31. */
    private static void next() {
        GhostSigns x = withRivals();
        Checks.due("none", x.next(0, 2), Checks.NONE);
        x.light(5, 0, 6, 2);
        Checks.due("the last", x.next(0, 2), 5);
        x.light(3, 0, 6, 4);
        Checks.due("the least of those", x.next(0, 2), 3);
        x.light(4, 0, 6, 6);
        Checks.due("the greatest", x.next(0, 2), 4);
        Checks.due("asked stays", x.asked(), 0);
        x.light(0, 0, 6, 1);
        Checks.due("a light that shows what is known", x.next(0, 2), 4);
        Checks.due("another line", x.next(1, 2), Checks.NONE);
        x.light(0, 0, 6, 6);
        Checks.due("the first light", x.next(0, 2), 0);
        Checks.due("line 4", x.next(4, 1), Checks.BAD);
        Checks.due("line -1", x.next(-1, 1), Checks.BAD);
        Checks.due("colour 0", x.next(0, 0), Checks.BAD);
        Checks.due("colour 4", x.next(0, 4), Checks.BAD);
    }

    /** Promise 32. */
    private static void read() {
        GhostSigns x = withRivals();
        x.strike(2);
        Checks.due("first", x.read(0, 1), 1);
        Checks.due("on another line", x.read(3, 1), 2);
        Checks.due("line 4", x.read(4, 0), Checks.BAD);
        Checks.due("line -1", x.read(-1, 0), Checks.BAD);
        Checks.due("word 3", x.read(0, 3), Checks.BAD);
        Checks.due("word -1", x.read(0, -1), Checks.BAD);
        Checks.found(x, "struck", () -> x.read(0, 2), Checks.NOTHING);
        for (int i = 3; i <= 12; i++) {
            Checks.due("hand " + i, x.read(0, 0), i);
        }
        Checks.due("a 13th", x.read(0, 0), Checks.FULL);
        Checks.due("FULL ahead of NOTHING", x.read(0, 2), Checks.FULL);
        Checks.due("BAD ahead of FULL", x.read(0, 3), Checks.BAD);
        Checks.due("hands", x.count(4), 12);
    }

    /** Promise 33. */
    private static void spread() {
        GhostSigns x = withRivals();
        x.reading(0, 2);
        Checks.due("none read", x.spread(0), 0);
        Checks.due("none was read most", x.asked(), Checks.NONE);
        x.read(0, 2);
        x.read(1, 0);
        Checks.due("one", x.spread(0), 1);
        Checks.due("it was read most", x.asked(), 2);
        x.read(0, 1);
        Checks.due("two", x.spread(0), 2);
        Checks.due("of these the least", x.asked(), 1);
        x.read(0, 2);
        Checks.due("two still", x.spread(0), 2);
        Checks.due("the one read most", x.asked(), 2);
        Checks.due("line 4", x.spread(4), Checks.BAD);
        Checks.due("line -1", x.spread(-1), Checks.BAD);
        Checks.due("a refused one does not change asked", x.asked(), 2);
        x.strike(2);
        Checks.due("a struck word was read all the same", x.spread(0), 2);
    }

    /** Promise 34. */
    private static void wall() {
        GhostSigns x = new GhostSigns();
        Checks.due("least", x.wall(0, 1, true), 0);
        Checks.due("most", x.wall(1000, 1000, false), 1);
        Checks.due("worth -1", x.wall(-1, 1, true), Checks.BAD);
        Checks.due("worth 1001", x.wall(1001, 1, true), Checks.BAD);
        Checks.due("cost 0", x.wall(1, 0, true), Checks.BAD);
        Checks.due("cost 1001", x.wall(1, 1001, true), Checks.BAD);
        for (int i = 2; i < 12; i++) {
            Checks.due("wall " + i, x.wall(i, i, true), i);
        }
        Checks.due("a 13th", x.wall(1, 1, true), Checks.FULL);
        Checks.due("BAD ahead of FULL", x.wall(1, 0, true), Checks.BAD);
        Checks.due("walls", x.count(5), 12);
    }

    /** Promise 35. */
    private static void keep() {
        GhostSigns x = new GhostSigns();
        Checks.due("no walls", x.keep(12000), 0);
        for (int i = 0; i < 12; i++) {
            x.wall(1000, 1000, true);
        }
        Checks.due("all", x.keep(12000), 12000);
        Checks.due("all bits", x.asked(), 4095);
        Checks.due("all but one", x.keep(11999), 11000);
        Checks.due("the least bits", x.asked(), 2047);
        Checks.due("a budget of nothing", x.keep(0), 0);
        Checks.due("none", x.keep(999), 0);
        Checks.due("no bits", x.asked(), 0);
        x.keep(1000);
        Checks.due("budget -1", x.keep(-1), Checks.BAD);
        Checks.due("budget 12001", x.keep(12001), Checks.BAD);
        Checks.due("a refused one does not change asked", x.asked(), 1);
    }

    /** Promise 35: leave, then worth, then cost, then bits. */
    private static void keepTies() {
        GhostSigns x = new GhostSigns();
        x.wall(900, 1, false);
        x.wall(30, 30, true);
        x.wall(10, 12, true);
        x.wall(20, 17, true);
        x.wall(10, 12, true);
        x.wall(0, 1, true);
        Checks.due("the greatest worth", x.keep(30), 30);
        Checks.due("of these the least cost, then bits", x.asked(), 4 + 8);
        Checks.due("exactly its cost", x.keep(29), 30);
        Checks.due("not quite its cost", x.keep(28), 20);
        Checks.due("one alone", x.asked(), 8);
        Checks.due("one of no worth is left out", x.keep(12000), 70);
        Checks.due("all with leave and worth", x.asked(), 2 + 4 + 8 + 16);
    }
}
