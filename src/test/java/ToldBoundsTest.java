import java.util.ArrayList;
import java.util.List;

/** Promises 36 to 40 at every bound that the document names. */
public final class ToldBoundsTest {
    private static final int MIN = Scenes.MIN, MAX = Scenes.MAX, NONE = Checks.NONE, ALL = 32767;
    private static final int MOST_CALLS = 512;

    public static void main(String[] args) {
        asked();
        askedStays();
        count();
        finding();
        findingStays();
        findings();
        findingsMost();
        digest();
        digestOfTheLeast();
        digestOfTheMost();
        Checks.finish();
    }

    /** Promise 36. */
    private static void asked() {
        Cases.leaves("36: before any", GhostSigns::new, GhostSigns::asked, 0);
        Cases.leaves("36: the latest", Scenes::lived, GhostSigns::asked, 3);
        GhostSigns x = Scenes.lived();
        x.reading(Scenes.UNTOUCHED, 1);
        Checks.due("36: reading() at SLOT 0", x.asked(), 0);
        x.keep(12000);
        Checks.due("36: keep()", x.asked(), 3);
        x.spread(Scenes.UNTOUCHED);
        Checks.due("36: spread() without HANDS", x.asked(), NONE);
        x.keep(0);
        Checks.due("36: keep() without a budget", x.asked(), 0);
        x.reading(Scenes.ONE_LAYER, 1);
        Checks.due("36: reading()", x.asked(), 3);
        x.spread(Scenes.ONE_LAYER);
        Checks.due("36: spread()", x.asked(), Scenes.FIRM);
    }

    /** Promise 36: what was refused, a reading() of NONE, and other calls tell nothing by asked(). */
    private static void askedStays() {
        Cases.Call[] others = {
            x -> x.reading(4, 1), x -> x.reading(0, 0), x -> x.spread(4), x -> x.spread(-1), x -> x.keep(-1),
            x -> x.keep(12001), x -> x.rivals(3, 1), x -> x.gain(5, 3, 1), x -> x.next(3, 1), x -> x.lack(3, 0, 8, 1),
            x -> x.two(3, 1, 2, 20000), x -> x.faded(1), x -> x.agrees(0), x -> x.read(0, 0), x -> x.wall(9, 9, true),
            x -> x.see(0, 0, 1, 1), x -> x.light(0, 0, 0, 1), x -> x.layer(3, 0, 0, 1), x -> x.digest(), x -> x.mean()
        };
        for (int i = 0; i < others.length; i++) {
            GhostSigns x = Scenes.lived();
            others[i].on(x);
            Checks.due("36: asked() stays behind call " + i, x.asked(), 3);
        }
        GhostSigns y = Scenes.lived();
        y.see(0, 0, 1, 1);
        y.see(0, 9, 1, 1);
        Checks.due("36: none can be there", y.reading(0, 1), NONE);
        Checks.due("36: asked() stays behind NONE", y.asked(), 3);
        GhostSigns z = new GhostSigns();
        z.reading(0, 1);
        Checks.due("36: 0 before, NONE does not count", z.asked(), 0);
    }

    /** Promise 37. */
    private static void count() {
        int[] lived = {9, 8, 5, 4, 4, 3};
        int[] full = {16, 15, 5, 4, 12, 12};
        for (int what = 0; what <= 5; what++) {
            new Edge("37: new, count(what)", GhostSigns::new, (x, w) -> x.count(w)).leaves(what, 0);
            new Edge("37: count(what)", Scenes::lived, (x, w) -> x.count(w)).leaves(what, lived[what]);
            new Edge("37: full, count(what)", Scenes::full, (x, w) -> x.count(w)).leaves(what, full[what]);
        }
        new Edge("37: count(what)", Scenes::lived, (x, what) -> x.count(what)).bad(MIN, -1, 6, MAX);
        GhostSigns x = Scenes.words(16);
        for (int word = 0; word < 16; word++) {
            x.strike(word);
            Checks.due("37: those that are not STRUCK", x.count(1), 15 - word);
            Checks.due("37: WORDS ever", x.count(0), 16);
        }
    }

    /** Promise 38: each FINDING, and the latest of them. */
    private static void finding() {
        Cases.leaves("38: before any", GhostSigns::new, GhostSigns::finding, 0);
        Cases.leaves("38: the latest", Scenes::lived, GhostSigns::finding, Checks.NOUGHT);
        GhostSigns x = Scenes.lived();
        x.tear(Scenes.MISSING);
        Checks.due("38: NOTHING", x.finding(), Checks.NOTHING);
        x.see(0, 10, 1, 1);
        Checks.due("38: BEYOND", x.finding(), Checks.BEYOND);
        x.mark(Scenes.PLAIN, 1);
        Checks.due("38: UNLIKE", x.finding(), Checks.UNLIKE);
        x.sheet(0, -1);
        Checks.due("38: SIZE", x.finding(), Checks.SIZE);
        x.tear(Scenes.MISSING);
        Checks.due("38: NOTHING again", x.finding(), Checks.NOTHING);
        Checks.due("38: asked twice", x.finding(), Checks.NOTHING);
    }

    /** Promise 38: BAD, FULL, STATE, SPENT and NONE are no FINDINGS. */
    private static void findingStays() {
        Cases.leaves("38: behind BAD", Scenes::lived, x -> x.tear(4), Checks.BAD);
        Cases.leaves("38: behind FULL", Scenes::full, x -> x.word(Scenes.MISSING), Checks.FULL);
        Cases.leaves("38: behind STATE", Scenes::lived, x -> x.strike(Scenes.FIRM), Checks.STATE);
        Cases.leaves("38: behind SPENT", Scenes::lived, x -> x.two(3, 1, 2, 1), Checks.SPENT);
        Cases.leaves("38: behind NONE", Scenes::lived, x -> x.span(Scenes.HEIR, true), NONE);
    }

    /** Promise 39. */
    private static void findings() {
        new Edge("39: new, findings(f)", GhostSigns::new, (x, f) -> x.findings(f))
                .leaves(1, 0).leaves(2, 0).leaves(3, 0).leaves(4, 0).leaves(5, 0).bad(MIN, -1, 0, 6, MAX);
        new Edge("39: findings(f)", Scenes::lived, (x, f) -> x.findings(f))
                .leaves(1, 0).leaves(4, 1).leaves(5, 0).bad(MIN, -1, 0, 6, MAX);
    }

    /** Promise 39: as often as one object's calls allow. */
    private static void findingsMost() {
        Cases.Call[] refused = {x -> x.tear(0), x -> x.see(0, 10, 0, 0), x -> x.mean(), x -> x.sheet(0, -1)};
        int[] finding = {Checks.NOTHING, Checks.BEYOND, Checks.NOUGHT, Checks.SIZE};
        for (int i = 0; i < refused.length; i++) {
            GhostSigns x = new GhostSigns();
            for (int call = 1; call < MOST_CALLS; call++) {
                Checks.due("39: call " + call, refused[i].on(x), Checks.FINDING);
            }
            Checks.due("39: the last call", x.findings(finding[i]), MOST_CALLS - 1);
        }
    }

    /** Promise 40: the digest of what the other calls tell. */
    private static void digest() {
        Scenes.Maker[] makers = {GhostSigns::new, Scenes::lived, Scenes::full, () -> Scenes.words(16)};
        for (int i = 0; i < makers.length; i++) {
            Cases.leaves("40: digest() of object " + i, makers[i], GhostSigns::digest, digestByAnswers(makers[i]));
        }
    }

    /** Each part is asked of an object of its own, as one object serves 512 calls. */
    private static long digestByAnswers(Scenes.Maker maker) {
        List<Integer> all = new ArrayList<>();
        countsAndWords(maker.make(), all);
        for (int line = 0; line < 4; line++) {
            GhostSigns x = maker.make();
            for (int i = 0; i < 150; i++) {
                all.add(x.seen(line, i / 15, i % 15));
            }
        }
        layers(maker.make(), all);
        sheets(maker.make(), all);
        long h = 17;
        for (int v : all) {
            h = 31 * h + v;
        }
        return h;
    }

    private static void countsAndWords(GhostSigns x, List<Integer> all) {
        for (int what = 0; what <= 5; what++) {
            all.add(x.count(what));
        }
        for (int word = 0; word < x.count(0); word++) {
            if (x.told(word, 0) == Checks.FINDING) {
                all.add(-1);
                continue;
            }
            for (int what = 0; what <= 5; what++) {
                all.add(x.told(word, what));
            }
        }
    }

    private static void layers(GhostSigns x, List<Integer> all) {
        for (int line = 0; line < 4; line++) {
            for (int i = 0; x.layerTold(line, i, 0) != NONE; i++) {
                for (int what = 0; what <= 2; what++) {
                    all.add(x.layerTold(line, i, what));
                }
            }
        }
    }

    private static void sheets(GhostSigns x, List<Integer> all) {
        for (int s = 0; s < 4; s++) {
            List<Integer> bytes = new ArrayList<>();
            int told = x.lay(s, 0, 0);
            while (told != Checks.FINDING) {
                bytes.add(told - 1000);
                told = x.lay(s, bytes.size(), 0);
            }
            all.add(x.finding() == Checks.NOTHING ? -1 : bytes.size());
            all.addAll(bytes);
        }
    }

    /** Promise 40: a WORD that is STRUCK is -1 once; a SHEET of no bytes is 0, a missing one -1. */
    private static void digestOfTheLeast() {
        Scenes.Maker struck = () -> {
            GhostSigns x = Scenes.words(16);
            for (int word = 0; word < 16; word++) {
                x.strike(word);
            }
            return x;
        };
        Cases.leaves("40: all STRUCK", struck, GhostSigns::digest, digestByAnswers(struck));
        for (int s = 0; s < 4; s++) {
            int one = s;
            Scenes.Maker empty = () -> {
                GhostSigns x = new GhostSigns();
                x.sheet(one, 0);
                return x;
            };
            Cases.leaves("40: SHEET " + s + " of no bytes", empty, GhostSigns::digest, digestByAnswers(empty));
            Checks.due("40: not as if missing", empty.make().digest() == new GhostSigns().digest() ? 1 : 0, 0);
        }
    }

    /** Promise 40: all SHEETS, CELLS and LAYERS that there may be; bytes of both signs. */
    private static void digestOfTheMost() {
        Scenes.Maker most = () -> {
            GhostSigns x = Scenes.words(2);
            for (int i = 0; i < 40; i++) {
                x.see(i / 10, i % 10, ALL, i % 4);
                x.see(i / 10, i % 10, 1 << i % 15, (i + 1) % 4);
            }
            for (int i = 0; i < 12; i++) {
                x.layer(i / 3, i % 2, i % 10, 1 + i % 3);
            }
            for (int s = 0; s < 4; s++) {
                x.sheet(s, 10);
                x.lay(s, 0, -128);
                x.lay(s, 5, 127 - s);
                x.lay(s, 9, -1);
            }
            return x;
        };
        Checks.due("40: all CELLS are known", most.make().count(2), 600);
        Checks.due("40: all LAYERS are there", most.make().count(3), 12);
        Cases.leaves("40: of the most", most, GhostSigns::digest, digestByAnswers(most));
    }
}
