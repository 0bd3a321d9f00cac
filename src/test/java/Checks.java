/** What the tests share: counting answers that are not as due, and writing words on sheets. */
final class Checks {
    static final int BAD = -1, FULL = -2, FINDING = -3, STATE = -4, SPENT = -6, NONE = -9;
    static final int NOTHING = 1, BEYOND = 2, UNLIKE = 3, NOUGHT = 4, SIZE = 5;

    private static int wrong = 0;

    private Checks() {
    }

    static void due(String call, long got, long want) {
        if (got != want) {
            wrong++;
            System.out.println(call + " answered " + got + ", due is " + want);
        }
    }

    /** A refusal with a finding: the answer, the finding, and that it was counted once more. */
    static void found(GhostSigns x, String call, FindingCall asked, int finding) {
        int before = x.findings(finding);
        due(call, asked.answer(), FINDING);
        due(call + ": finding()", x.finding(), finding);
        due(call + ": findings(" + finding + ")", x.findings(finding), before + 1);
    }

    interface FindingCall {
        int answer();
    }

    /** Brings a sheet with a text's characters. */
    static void write(GhostSigns x, int s, String text) {
        due("sheet(" + s + ", " + text.length() + ")", x.sheet(s, text.length()), text.length());
        for (int i = 0; i < text.length(); i++) {
            due("lay of " + text, x.lay(s, i, text.charAt(i)), 1097);
        }
    }

    static int word(GhostSigns x, String text) {
        write(x, 3, text);
        return x.word(3);
    }

    static int firm(GhostSigns x, String text, int number, int from, int to, int of) {
        write(x, 3, text);
        return x.firm(3, number, from, to, of);
    }

    static int slogan(GhostSigns x, String text, int firm) {
        write(x, 3, text);
        return x.slogan(3, firm);
    }

    /** Sixteen words of one letter a: as many as there may ever be. */
    static void fillWords(GhostSigns x) {
        x.sheet(3, 1);
        for (int word = x.count(0); word < 16; word++) {
            due("word " + word + " of 16", x.word(3), word);
        }
    }

    static void finish() {
        if (wrong != 0) {
            System.out.println(wrong + " answers are not as due");
            System.exit(1);
        }
    }
}
