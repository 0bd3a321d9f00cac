import java.util.ArrayList;
import java.util.HashMap;
import java.util.List;
import java.util.Map;
import java.util.TreeMap;

/** The document, cell by cell and without any short cut: what GhostSigns is held against. */
final class PlainModel {
    static final int BAD = -1, FULL = -2, FINDING = -3, STATE = -4, SPENT = -6, NONE = -9;

    record Word(int kind, String letters, int number, int from, int to, int of) {
    }

    record Layer(int word, int slot, int colour) {
    }

    record Light(int light, int line, int slot, int cells) {
    }

    record Hand(int line, int word) {
    }

    record Wall(int worth, int cost, boolean leave) {
    }

    record Anew(int year, int u, int v) {
    }

    private final Map<Integer, Integer> strokes = new HashMap<>();
    private final byte[][] sheets = new byte[4][];
    private final List<Word> words = new ArrayList<>();
    private final List<Integer> struck = new ArrayList<>();
    private final int[][][] seen = new int[4][10][15];
    private final List<List<Layer>> layers = new ArrayList<>();
    private final List<Anew> anew = new ArrayList<>();
    private final List<Light> lights = new ArrayList<>();
    private final List<Hand> hands = new ArrayList<>();
    private final List<Wall> walls = new ArrayList<>();
    private final int[] findings = new int[6];
    private int wallNumber = 1;
    private int wallYear = 1900;
    private int finding = 0;
    private int asked = 0;

    PlainModel() {
        for (int line = 0; line < 4; line++) {
            layers.add(new ArrayList<>());
            for (int[] slot : seen[line]) {
                java.util.Arrays.fill(slot, 4);
            }
        }
    }

    private int found(int f) {
        finding = f;
        findings[f]++;
        return FINDING;
    }

    private static boolean in(int v, int least, int most) {
        return least <= v && v <= most;
    }

    private boolean ever(int word) {
        return in(word, 0, words.size() - 1);
    }

    private boolean isFirm(int word) {
        int kind = words.get(word).kind;
        return kind == 1 || kind == 2;
    }

    int letter(int c, int bits) {
        if (!in(c, 97, 122) || !in(bits, 0, 32767)) return BAD;
        Integer was = strokes.put(c, bits);
        return was == null ? 0 : was;
    }

    int sheet(int s, int n) {
        if (!in(s, 0, 3) || n > 10) return BAD;
        if (n < 0) return found(5);
        sheets[s] = new byte[n];
        java.util.Arrays.fill(sheets[s], (byte) 97);
        return n;
    }

    int lay(int s, int i, int v) {
        if (!in(s, 0, 3)) return BAD;
        if (sheets[s] == null) return found(1);
        if (!in(i, 0, sheets[s].length - 1)) return found(2);
        int was = sheets[s][i];
        sheets[s][i] = (byte) v;
        return was + 1000;
    }

    int tear(int s) {
        if (!in(s, 0, 3)) return BAD;
        if (sheets[s] == null) return found(1);
        sheets[s] = null;
        return 1;
    }

    int copy(int s, int i, int to, int j, int n) {
        if (!in(s, 0, 3) || !in(to, 0, 3)) return BAD;
        if (n < 0) return found(5);
        if (sheets[s] == null || sheets[to] == null) return found(1);
        if (i < 0 || (long) i + n > sheets[s].length) return found(2);
        if (j < 0 || (long) j + n > sheets[to].length) return found(2);
        byte[] ahead = sheets[s].clone();
        for (int k = 0; k < n; k++) sheets[to][j + k] = ahead[i + k];
        return 1;
    }

    private String lettersOf(int s) {
        StringBuilder letters = new StringBuilder();
        for (byte b : sheets[s]) if (in(b, 97, 122)) letters.append((char) b);
        return letters.toString();
    }

    private int make(int s, int kind, int number, int from, int to, int of) {
        String letters = lettersOf(s);
        if (!in(letters.length(), 1, 8)) return found(5);
        words.add(new Word(kind, letters, number, from, to, of));
        return words.size() - 1;
    }

    int word(int s) {
        if (!in(s, 0, 3)) return BAD;
        if (words.size() == 16) return FULL;
        if (sheets[s] == null) return found(1);
        return make(s, 0, NONE, NONE, NONE, NONE);
    }

    int firm(int s, int number, int from, int to, int of) {
        if (!in(s, 0, 3) || !in(number, 1, 200)) return BAD;
        if (!in(from, 1700, 2100) || !in(to, 1700, 2100) || from > to) return BAD;
        if (of != NONE && !ever(of)) return BAD;
        if (words.size() == 16) return FULL;
        if (sheets[s] == null || struck.contains(of)) return found(1);
        if (of != NONE && !isFirm(of)) return found(3);
        return make(s, of == NONE ? 1 : 2, number, from, to, of);
    }

    int slogan(int s, int firm) {
        if (!in(s, 0, 3) || !ever(firm)) return BAD;
        if (words.size() == 16) return FULL;
        if (sheets[s] == null || struck.contains(firm)) return found(1);
        if (!isFirm(firm)) return found(3);
        return make(s, 3, NONE, NONE, NONE, firm);
    }

    private int children(int firm) {
        int sum = 0;
        for (int w = 0; w < words.size(); w++) if (!struck.contains(w) && words.get(w).of == firm) sum++;
        return sum;
    }

    int strike(int word) {
        if (!ever(word)) return BAD;
        if (struck.contains(word)) return found(1);
        for (List<Layer> line : layers) for (Layer layer : line) if (layer.word == word) return STATE;
        if (children(word) > 0) return STATE;
        struck.add(word);
        return 1;
    }

    /** The WORD that has the years and the NUMBER of a WORD. */
    private Word house(int word) {
        Word w = words.get(word);
        return w.kind == 3 ? words.get(w.of) : w;
    }

    private int tell(int word, int what) {
        Word w = words.get(word);
        if (what == 0) return w.kind;
        if (what == 1) return w.letters.length();
        if (what == 3) return house(word).from;
        if (what == 4) return house(word).to;
        if (what == 5) return house(word).number;
        int sum = 0;
        for (char c : w.letters.toCharArray()) sum += Integer.bitCount(strokes.getOrDefault((int) c, 0));
        return sum;
    }

    int told(int word, int what) {
        if (!ever(word) || !in(what, 0, 5)) return BAD;
        return struck.contains(word) ? found(1) : tell(word, what);
    }

    int mark(int word, int kind) {
        if (!ever(word) || !in(kind, 1, 3)) return BAD;
        if (struck.contains(word)) return found(1);
        if (kind == 1) return isFirm(word) ? children(word) : found(3);
        if (words.get(word).kind != kind) return found(3);
        if (kind == 3) return words.get(word).of;
        int firm = word;
        while (words.get(firm).kind == 2) firm = words.get(firm).of;
        return firm;
    }

    int mean() {
        int sum = 0;
        int there = 0;
        for (int w = 0; w < words.size(); w++) {
            if (!struck.contains(w)) {
                there++;
                sum += words.get(w).letters.length();
            }
        }
        return there == 0 ? found(4) : sum / there;
    }

    int see(int line, int slot, int cells, int v) {
        if (!in(line, 0, 3) || !in(cells, 0, 32767) || !in(v, 0, 4)) return BAD;
        if (!in(slot, 0, 9)) return found(2);
        int changed = 0;
        for (int cell = 0; cell < 15; cell++) {
            if ((cells & 1 << cell) != 0 && seen[line][slot][cell] != v) {
                seen[line][slot][cell] = v;
                changed++;
            }
        }
        return changed;
    }

    int seen(int line, int slot, int cell) {
        if (!in(line, 0, 3) || !in(cell, 0, 14)) return BAD;
        return in(slot, 0, 9) ? seen[line][slot][cell] : found(2);
    }

    boolean has(int word, int start, int slot, int cell) {
        String letters = words.get(word).letters;
        if (slot < start || slot - start >= letters.length()) return false;
        return (strokes.getOrDefault((int) letters.charAt(slot - start), 0) & 1 << cell) != 0;
    }

    private boolean onLine(int word, int slot) {
        return slot >= 0 && (long) slot + words.get(word).letters.length() <= 10;
    }

    private boolean can(int line, int word, int start, int colour) {
        for (int slot = 0; slot < 10; slot++) {
            for (int cell = 0; cell < 15; cell++) {
                if (seen[line][slot][cell] == colour && !has(word, start, slot, cell)) return false;
            }
        }
        return true;
    }

    private int lackOf(int line, int word, int start, int colour) {
        int sum = 0;
        for (int slot = 0; slot < 10; slot++) {
            for (int cell = 0; cell < 15; cell++) {
                int v = seen[line][slot][cell];
                if (has(word, start, slot, cell) && v != 4 && v != colour) sum++;
            }
        }
        return sum;
    }

    int lack(int line, int word, int slot, int colour) {
        if (!in(line, 0, 3) || !ever(word) || !in(colour, 1, 3)) return BAD;
        if (struck.contains(word)) return found(1);
        if (!onLine(word, slot)) return found(2);
        return can(line, word, slot, colour) ? lackOf(line, word, slot, colour) : NONE;
    }

    private List<Layer> places(int line, int colour) {
        List<Layer> all = new ArrayList<>();
        for (int w = 0; w < words.size(); w++) {
            for (int slot = 0; slot < 10; slot++) {
                if (!struck.contains(w) && onLine(w, slot) && can(line, w, slot, colour)) {
                    all.add(new Layer(w, slot, colour));
                }
            }
        }
        return all;
    }

    private List<Layer> rivalsOf(int line, int colour) {
        TreeMap<Integer, List<Layer>> byLack = new TreeMap<>();
        for (Layer p : places(line, colour)) {
            byLack.computeIfAbsent(lackOf(line, p.word, p.slot, colour), lack -> new ArrayList<>()).add(p);
        }
        return byLack.isEmpty() ? List.of() : byLack.firstEntry().getValue();
    }

    int reading(int line, int colour) {
        if (!in(line, 0, 3) || !in(colour, 1, 3)) return BAD;
        List<Layer> rivals = rivalsOf(line, colour);
        if (rivals.isEmpty()) return NONE;
        asked = rivals.get(0).slot;
        return rivals.get(0).word;
    }

    int rivals(int line, int colour) {
        if (!in(line, 0, 3) || !in(colour, 1, 3)) return BAD;
        return rivalsOf(line, colour).size();
    }

    int layer(int line, int word, int slot, int colour) {
        if (!in(line, 0, 3) || !ever(word) || !in(colour, 1, 3)) return BAD;
        if (layers.get(line).size() == 3) return FULL;
        for (Layer layer : layers.get(line)) if (layer.colour == colour) return STATE;
        if (struck.contains(word)) return found(1);
        if (!onLine(word, slot)) return found(2);
        layers.get(line).add(new Layer(word, slot, colour));
        return layers.get(line).size();
    }

    int bare(int line) {
        if (!in(line, 0, 3)) return BAD;
        int had = layers.get(line).size();
        layers.get(line).clear();
        return had;
    }

    int layerTold(int line, int i, int what) {
        if (!in(line, 0, 3) || !in(what, 0, 2)) return BAD;
        if (!in(i, 0, layers.get(line).size() - 1)) return NONE;
        Layer layer = layers.get(line).get(i);
        return what == 0 ? layer.word : what == 1 ? layer.slot : layer.colour;
    }

    private int fadedOf(int line, List<Layer> stack) {
        int sum = 0;
        for (int slot = 0; slot < 10; slot++) {
            for (int cell = 0; cell < 15; cell++) {
                int v = seen[line][slot][cell];
                if (v == 4) continue;
                boolean fits = v == 0;
                for (int i = stack.size() - 1; i >= 0; i--) {
                    Layer layer = stack.get(i);
                    if (!has(layer.word, layer.slot, slot, cell)) continue;
                    if (layer.colour == v) {
                        fits = true;
                        break;
                    }
                    sum++;
                }
                if (!fits) return NONE;
            }
        }
        return sum;
    }

    int faded(int line) {
        return in(line, 0, 3) ? fadedOf(line, layers.get(line)) : BAD;
    }

    int two(int line, int a, int b, int n) {
        if (!in(line, 0, 3) || !in(a, 1, 3) || !in(b, 1, 3) || a == b || !in(n, 1, 20000)) return BAD;
        int tries = 0;
        int fewest = NONE;
        List<Layer> best = null;
        List<Layer> ofB = places(line, b);
        for (Layer first : places(line, a)) {
            for (Layer second : ofB) {
                if (first.word == second.word) continue;
                tries++;
                if (tries > n) return SPENT;
                for (List<Layer> stack : List.of(List.of(first, second), List.of(second, first))) {
                    int faded = fadedOf(line, stack);
                    if (faded != NONE && (best == null || faded < fewest)) {
                        fewest = faded;
                        best = stack;
                    }
                }
            }
        }
        if (best != null) layers.set(line, new ArrayList<>(best));
        return fewest;
    }

    int renumber(int year, int u, int v) {
        if (!in(year, 1700, 2100) || !in(u, 1, 3) || !in(v, -100, 100)) return BAD;
        for (Anew a : anew) if (a.year >= year) return BAD;
        if (anew.size() == 8) return FULL;
        anew.add(new Anew(year, u, v));
        return anew.size();
    }

    private int became(int n, int year, int other) {
        if (other < year) return NONE;
        int now = n;
        for (int y = year + 1; y <= other; y++) {
            for (Anew a : anew) {
                if (a.year == y) now = Math.max(1, Math.min(200, now * a.u + a.v));
            }
        }
        return now;
    }

    int number(int n, int year, int other) {
        if (!in(n, 1, 200) || !in(year, 1700, 2100) || !in(other, 1700, 2100)) return BAD;
        return became(n, year, other);
    }

    int address(int n, int year) {
        if (!in(n, 1, 200) || !in(year, 1700, 2100)) return BAD;
        wallNumber = n;
        wallYear = year;
        return 1;
    }

    /** The years of a WORD at THE WALL, or null. */
    private int[] spanOf(int word) {
        if (words.get(word).kind == 0) return new int[] {1700, 2100};
        Word firm = house(word);
        if (firm.to < wallYear) return null;
        if (became(wallNumber, wallYear, firm.to) != became(firm.number, firm.from, firm.to)) return null;
        return new int[] {firm.from, firm.to};
    }

    int span(int word, boolean last) {
        if (!ever(word)) return BAD;
        if (struck.contains(word)) return found(1);
        int[] years = spanOf(word);
        return years == null ? NONE : years[last ? 1 : 0];
    }

    int agrees(int line) {
        if (!in(line, 0, 3)) return BAD;
        if (layers.get(line).isEmpty()) return STATE;
        int beneath = 1700;
        for (Layer layer : layers.get(line)) {
            int[] years = spanOf(layer.word);
            if (years == null) return NONE;
            int year = years[0];
            while (year < beneath) year++;
            if (year > years[1]) return NONE;
            beneath = year;
        }
        return beneath;
    }

    int light(int light, int line, int slot, int cells) {
        if (!in(light, 0, 5) || !in(line, 0, 3) || !in(cells, 0, 32767)) return BAD;
        if (lights.size() == 30) return FULL;
        if (!in(slot, 0, 9)) return found(2);
        lights.add(new Light(light, line, slot, cells));
        return lights.size();
    }

    private boolean shows(int light, int line, int slot, int cell) {
        for (Light l : lights) {
            if (l.light == light && l.line == line && l.slot == slot && (l.cells & 1 << cell) != 0) return true;
        }
        return false;
    }

    private int gainOf(int light, int line, List<Layer> rivals) {
        int sum = 0;
        for (int slot = 0; slot < 10; slot++) {
            for (int cell = 0; cell < 15; cell++) {
                if (!shows(light, line, slot, cell) || seen[line][slot][cell] != 4) continue;
                int have = 0;
                for (Layer rival : rivals) if (has(rival.word, rival.slot, slot, cell)) have++;
                if (have > 0 && have < rivals.size()) sum++;
            }
        }
        return sum;
    }

    int gain(int light, int line, int colour) {
        if (!in(light, 0, 5) || !in(line, 0, 3) || !in(colour, 1, 3)) return BAD;
        return gainOf(light, line, rivalsOf(line, colour));
    }

    int next(int line, int colour) {
        if (!in(line, 0, 3) || !in(colour, 1, 3)) return BAD;
        List<Layer> rivals = rivalsOf(line, colour);
        int best = NONE;
        int most = 0;
        for (int light = 5; light >= 0; light--) {
            int gain = gainOf(light, line, rivals);
            if (gain > 0 && gain >= most) {
                most = gain;
                best = light;
            }
        }
        return best;
    }

    int read(int line, int word) {
        if (!in(line, 0, 3) || !ever(word)) return BAD;
        if (hands.size() == 12) return FULL;
        if (struck.contains(word)) return found(1);
        hands.add(new Hand(line, word));
        return hands.size();
    }

    int spread(int line) {
        if (!in(line, 0, 3)) return BAD;
        TreeMap<Integer, Integer> times = new TreeMap<>();
        for (Hand hand : hands) if (hand.line == line) times.merge(hand.word, 1, Integer::sum);
        asked = NONE;
        for (int word : times.keySet()) {
            if (asked == NONE || times.get(word) > times.get(asked)) asked = word;
        }
        return times.size();
    }

    int wall(int worth, int cost, boolean leave) {
        if (!in(worth, 0, 1000) || !in(cost, 1, 1000)) return BAD;
        if (walls.size() == 12) return FULL;
        walls.add(new Wall(worth, cost, leave));
        return walls.size() - 1;
    }

    int keep(int budget) {
        if (!in(budget, 0, 12000)) return BAD;
        int bestWorth = -1;
        int bestCost = 0;
        for (int bits = 0; bits < 1 << walls.size(); bits++) {
            int worth = 0;
            int cost = 0;
            boolean leave = true;
            for (int w = 0; w < walls.size(); w++) {
                if ((bits & 1 << w) == 0) continue;
                worth += walls.get(w).worth;
                cost += walls.get(w).cost;
                leave &= walls.get(w).leave;
            }
            if (!leave || cost > budget) continue;
            if (worth > bestWorth || (worth == bestWorth && cost < bestCost)) {
                bestWorth = worth;
                bestCost = cost;
                asked = bits;
            }
        }
        return bestWorth;
    }

    int asked() {
        return asked;
    }

    int count(int what) {
        int sum = 0;
        switch (what) {
            case 0: return words.size();
            case 1: return words.size() - struck.size();
            case 2:
                for (int[][] line : seen) for (int[] slot : line) for (int v : slot) if (v != 4) sum++;
                return sum;
            case 3:
                for (List<Layer> line : layers) sum += line.size();
                return sum;
            case 4: return hands.size();
            case 5: return walls.size();
            default: return BAD;
        }
    }

    int finding() {
        return finding;
    }

    int findings(int f) {
        return in(f, 1, 5) ? findings[f] : BAD;
    }

    long digest() {
        List<Integer> all = new ArrayList<>();
        for (int what = 0; what <= 5; what++) all.add(count(what));
        for (int w = 0; w < words.size(); w++) {
            if (struck.contains(w)) all.add(-1);
            else for (int what = 0; what <= 5; what++) all.add(tell(w, what));
        }
        for (int[][] line : seen) for (int[] slot : line) for (int v : slot) all.add(v);
        for (List<Layer> line : layers) {
            for (Layer layer : line) all.addAll(List.of(layer.word, layer.slot, layer.colour));
        }
        for (byte[] sheet : sheets) {
            all.add(sheet == null ? -1 : sheet.length);
            if (sheet != null) for (byte b : sheet) all.add((int) b);
        }
        long h = 17;
        for (int v : all) h = 31 * h + v;
        return h;
    }
}
