import java.util.List;

/** Single cases of a call, each on objects of its own, and whether they change what they may not. */
final class Cases {
    private static final int LAST_FINDING = 5;

    private Cases() {
    }

    interface Call {
        long on(GhostSigns x);
    }

    /** The call is not refused: it answers what is due, and no FINDING is told. */
    static GhostSigns takes(String name, Scenes.Maker maker, Call call, long want) {
        GhostSigns x = maker.make();
        int latest = x.finding();
        int[] before = findings(x);
        Checks.due(name, call.on(x), want);
        sameFindings(name, x, latest, before);
        return x;
    }

    /** The call answers what is due and changes nothing at all: BAD, FULL, STATE, SPENT, or a question. */
    static void leaves(String name, Scenes.Maker maker, Call call, long want) {
        sameElse(name, takes(name, maker, call, want), maker.make());
    }

    static void bad(String name, Scenes.Maker maker, Call call) {
        leaves(name + " is BAD", maker, call, Checks.BAD);
    }

    static void full(String name, Scenes.Maker maker, Call call) {
        leaves(name + " is FULL", maker, call, Checks.FULL);
    }

    /** The call is refused with a FINDING, which is told and counted, and changes nothing else. */
    static void finds(String name, Scenes.Maker maker, Call call, int finding) {
        GhostSigns x = maker.make();
        int[] due = findings(x);
        due[finding]++;
        Checks.due(name, call.on(x), Checks.FINDING);
        sameFindings(name, x, finding, due);
        sameElse(name, x, maker.make());
    }

    private static int[] findings(GhostSigns x) {
        int[] all = new int[LAST_FINDING + 1];
        for (int f = 1; f <= LAST_FINDING; f++) {
            all[f] = x.findings(f);
        }
        return all;
    }

    private static void sameFindings(String name, GhostSigns x, int latest, int[] due) {
        Checks.due(name + ": finding()", x.finding(), latest);
        int[] got = findings(x);
        for (int f = 1; f <= LAST_FINDING; f++) {
            Checks.due(name + ": findings(" + f + ")", got[f], due[f]);
        }
    }

    private static void sameElse(String name, GhostSigns x, GhostSigns untouched) {
        List<String> got = Probe.of(x);
        List<String> due = Probe.of(untouched);
        for (int i = 0; i < due.size(); i++) {
            Checks.due(name + ": " + got.get(i) + " behind it, " + due.get(i) + " without it",
                    got.get(i).equals(due.get(i)) ? 1 : 0, 1);
        }
    }
}
