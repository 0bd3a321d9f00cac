/** That Probe tells an object that was changed from one that was not, whatever the change. */
public final class ProbeTest {
    public static void main(String[] args) {
        for (int c = 'a'; c <= 'z'; c++) {
            int one = c;
            differs("letter", x -> x.letter(one, 9));
        }
        lettersToWords();
        wall();
        street();
        lightsHandsKeeping();
        Checks.due("two alike", Probe.of(Scenes.lived()).equals(Probe.of(Scenes.lived())) ? 1 : 0, 1);
        Checks.due("two alike that are full", Probe.of(Scenes.full()).equals(Probe.of(Scenes.full())) ? 1 : 0, 1);
        Checks.finish();
    }

    private static void differs(String change, Cases.Call call) {
        GhostSigns changed = Scenes.lived();
        call.on(changed);
        Checks.due(change + " is not told", Probe.of(changed).equals(Probe.of(Scenes.lived())) ? 1 : 0, 0);
    }

    private static void lettersToWords() {
        differs("sheet", x -> x.sheet(Scenes.MISSING, 0));
        differs("lay", x -> x.lay(Scenes.TEN, 9, 98));
        differs("tear", x -> x.tear(Scenes.EMPTY));
        differs("copy", x -> x.copy(Scenes.WRITTEN, 1, Scenes.WRITTEN, 0, 1));
        differs("word", x -> x.word(Scenes.WRITTEN));
        differs("firm", x -> x.firm(Scenes.WRITTEN, 1, 1800, 1800, Checks.NONE));
        differs("slogan", x -> x.slogan(Scenes.WRITTEN, Scenes.FIRM));
        differs("strike", x -> x.strike(Scenes.SHORT));
    }

    private static void wall() {
        differs("see", x -> x.see(3, 9, 16384, 0));
        differs("layer", x -> x.layer(3, Scenes.SHORT, 0, 1));
        differs("bare", x -> x.bare(Scenes.ONE_LAYER));
        differs("two", x -> x.two(3, 1, 2, 20000));
        differs("reading", x -> x.reading(3, 1));
    }

    private static void street() {
        differs("renumber", x -> x.renumber(1901, 1, 0));
        differs("renumber by one more", x -> x.renumber(2099, 1, 1));
        differs("a NUMBER beside", x -> x.address(25, 1880));
        differs("a year earlier", x -> x.address(24, 1879));
        differs("a year later", x -> x.address(24, 1881));
    }

    private static void lightsHandsKeeping() {
        differs("light", x -> x.light(0, 0, 0, 0));
        differs("read", x -> x.read(3, Scenes.SHORT));
        differs("spread", x -> x.spread(3));
        differs("wall", x -> x.wall(0, 1, false));
        differs("keep", x -> x.keep(0));
    }
}
