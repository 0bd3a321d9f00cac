import java.util.ArrayList;
import java.util.List;

/**
 * All that an object's answers tell of its state, but finding() and findings(). It asks some 300
 * calls and changes the object by the last of them, so it is asked once, at the end.
 */
final class Probe {
    private static final int[] YEARS = {1700, 1750, 1839, 1840, 1899, 1900, 1925, 1949, 1959, 2050, 2099};
    private static final int[] NUMBERS = {1, 20, 90};
    private static final int[] BUDGETS = {1, 5, 8, 9, 14, 700, 12000};

    private final GhostSigns x;
    private final List<String> told = new ArrayList<>();

    private Probe(GhostSigns x) {
        this.x = x;
    }

    static List<String> of(GhostSigns x) {
        Probe probe = new Probe(x);
        probe.tell("digest()", x.digest());
        probe.tell("asked()", x.asked());
        probe.askWords();
        probe.askStreet();
        probe.askWall();
        probe.askHandsAndWalls();
        probe.askByChanges();
        return probe.told;
    }

    private void tell(String call, long answer) {
        told.add(call + " = " + answer);
    }

    private void askWords() {
        for (int word = 0; word < 16; word++) {
            tell("span(" + word + ", true)", x.span(word, true));
            for (int kind = 1; kind <= 3; kind++) {
                tell("mark(" + word + ", " + kind + ")", x.mark(word, kind));
            }
        }
    }

    private void askStreet() {
        for (int year : YEARS) {
            for (int n : NUMBERS) {
                tell("number(" + n + ", " + year + ", 2100)", x.number(n, year, 2100));
            }
        }
    }

    private void askWall() {
        for (int line = 0; line < 4; line++) {
            tell("faded(" + line + ")", x.faded(line));
            tell("agrees(" + line + ")", x.agrees(line));
            for (int colour = 1; colour <= 3; colour++) {
                tell("rivals(" + line + ", " + colour + ")", x.rivals(line, colour));
                for (int light = 0; light < 6; light++) {
                    tell("gain(" + light + ", " + line + ", " + colour + ")", x.gain(light, line, colour));
                }
            }
        }
    }

    private void askHandsAndWalls() {
        for (int line = 0; line < 4; line++) {
            tell("spread(" + line + ")", x.spread(line));
            tell("asked() then", x.asked());
        }
        for (int budget : BUDGETS) {
            tell("keep(" + budget + ")", x.keep(budget));
            tell("asked() then", x.asked());
        }
    }

    /** What only a call that changes it tells: how many there are already, and STROKES. */
    private void askByChanges() {
        tell("renumber(2100, 1, 0)", x.renumber(2100, 1, 0));
        tell("light(0, 0, 0, 0)", x.light(0, 0, 0, 0));
        for (int c = 'a'; c <= 'z'; c++) {
            tell("letter(" + c + ", 0)", x.letter(c, 0));
        }
    }
}
