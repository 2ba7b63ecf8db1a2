import java.util.ArrayList;
import java.util.Arrays;
import java.util.HashSet;
import java.util.List;
import java.util.Set;
import java.util.TreeSet;

/**
 * The document once more, by its words alone: every PAIRING is listed, every set is looked at.
 * Nothing here is shared with the class under test.
 */
final class Model {
    static class Thing { int set; Thing(int set) { this.set = set; } }
    static class Spot extends Thing { Spot(int set) { super(set); } }
    static class Area extends Thing { Area(int set) { super(set); } }
    static final class Key extends Spot { Key(int set) { super(set); } }
    static final class Knot extends Area { Knot(int set) { super(set); } }
    static final class Pool extends Area { Pool(int set) { super(set); } }

    private static final List<Class<? extends Thing>> KINDS =
        List.of(Thing.class, Spot.class, Area.class, Key.class, Knot.class, Pool.class);

    /** What all listed PAIRINGS of one net tell. */
    static final class Facts {
        final int n;
        final boolean[][] line;
        final List<int[]> all = new ArrayList<>();
        final List<int[]> greatest = new ArrayList<>();
        final int[] bySize = new int[7];
        final boolean[] whole;
        int best;

        Facts(int n, boolean[][] line) {
            this.n = n;
            this.line = line;
            int[] mates = new int[n];
            Arrays.fill(mates, -1);
            list(0, mates);
            whole = new boolean[1 << n];
            for (int[] p : all) {
                int lines = lines(p);
                best = Math.max(best, lines);
                bySize[lines]++;
                whole[((1 << n) - 1) & ~missed(p)] = true;
            }
            for (int[] p : all) {
                if (lines(p) == best) greatest.add(p);
            }
        }

        private void list(int p, int[] mates) {
            if (p == n) {
                all.add(mates.clone());
                return;
            }
            list(p + 1, mates);
            if (mates[p] >= 0) return;
            for (int q = 0; q < p; q++) {
                if (line[p][q] && mates[q] < 0) {
                    mates[p] = q;
                    mates[q] = p;
                    list(p + 1, mates);
                    mates[p] = -1;
                    mates[q] = -1;
                }
            }
        }

        int lack() { return n - 2 * best; }

        int most(int set) {
            int most = 0;
            for (int sub = set; ; sub = (sub - 1) & set) {
                if (whole[sub]) most = Math.max(most, Integer.bitCount(sub) / 2);
                if (sub == 0) return most;
            }
        }
    }

    int n;
    boolean[][] line = new boolean[12][12];
    int z = 1;
    final List<Integer> tape = new ArrayList<>();
    final Object[] sheets = new Object[4];
    final Object[] shelves = new Object[4];
    int imageN = -1;
    int imageZ;
    boolean[][] imageLine;
    private Facts facts;

    private Facts facts() {
        if (facts == null) facts = new Facts(n, line);
        return facts;
    }

    private static boolean[][] twin(boolean[][] of) {
        boolean[][] twin = new boolean[12][];
        for (int i = 0; i < 12; i++) twin[i] = of[i].clone();
        return twin;
    }

    private static int lines(int[] pairing) {
        int ends = 0;
        for (int m : pairing) if (m >= 0) ends++;
        return ends / 2;
    }

    private static int missed(int[] pairing) {
        int set = 0;
        for (int p = 0; p < pairing.length; p++) if (pairing[p] < 0) set |= 1 << p;
        return set;
    }

    private boolean point(int p) { return p >= 0 && p < n; }

    private boolean set(int s) { return s >= 0 && s < 1 << n; }

    private int full() { return (1 << n) - 1; }

    private static boolean in(int p, int set) { return (set >> p & 1) != 0; }

    private List<Integer> pieceList(int set) {
        List<Integer> found = new ArrayList<>();
        boolean[] seen = new boolean[12];
        for (int p = 0; p < 12; p++) {
            if (in(p, set) && !seen[p]) {
                int piece = spread(p, set, seen);
                found.add(piece);
            }
        }
        return found;
    }

    private int spread(int p, int set, boolean[] seen) {
        seen[p] = true;
        int piece = 1 << p;
        for (int q = 0; q < n; q++) if (in(q, set) && line[p][q] && !seen[q]) piece |= spread(q, set, seen);
        return piece;
    }

    int points(int k) {
        if (k < 1 || k > 12) return -2;
        if (n + k > 12) return -4;
        n += k;
        facts = null;
        return n;
    }

    int line(int a, int b, int on) {
        if (!point(a) || !point(b) || a == b || on < 0 || on > 1) return -2;
        int was = line[a][b] ? 1 : 0;
        line[a][b] = line[b][a] = on == 1;
        facts = null;
        return was;
    }

    int next(int p) {
        if (!point(p)) return -2;
        int set = 0;
        for (int q = 0; q < n; q++) if (line[p][q]) set |= 1 << q;
        return set;
    }

    int count(int what) {
        if (what == 0) return n;
        if (what == 1) return facts().bySize[1];
        if (what == 2) return facts().best;
        if (what == 3) return facts().lack();
        if (what == 4) return pieceList(full()).size();
        if (what == 5) return tape.size();
        if (what == 6) return z;
        return -2;
    }

    int most(int s) { return set(s) ? facts().most(s) : -2; }

    private int[] thePairing() {
        int[] first = null;
        for (int[] p : facts().greatest) if (first == null || before(p, first)) first = p;
        return first;
    }

    private static boolean before(int[] a, int[] b) {
        for (int i = 0; i < a.length; i++) {
            int x = a[i] < 0 ? 99 : a[i];
            int y = b[i] < 0 ? 99 : b[i];
            if (x != y) return x < y;
        }
        return false;
    }

    int mate(int p) { return point(p) ? thePairing()[p] : -2; }

    int ways(int k) { return k < 0 || k > 6 ? -2 : facts().bySize[k]; }

    int alone(int p, int part) {
        if (!point(p) || part < 0 || part > 1) return -2;
        int miss = 0;
        for (int[] g : facts().greatest) if (g[p] < 0) miss++;
        int whole = facts().greatest.size();
        for (int d = whole; d > 1; d--) {
            if (miss % d == 0 && whole % d == 0) {
                miss /= d;
                whole /= d;
            }
        }
        return part == 0 ? miss : whole;
    }

    int mark(int p) {
        if (!point(p)) return -2;
        if (loose(p)) return 0;
        for (int q = 0; q < n; q++) if (line[p][q] && loose(q)) return 1;
        return 2;
    }

    private boolean loose(int p) {
        for (int[] g : facts().greatest) if (g[p] < 0) return true;
        return false;
    }

    int marked(int mark) {
        if (mark < 0 || mark > 2) return -2;
        int set = 0;
        for (int p = 0; p < n; p++) if (mark(p) == mark) set |= 1 << p;
        return set;
    }

    private List<Integer> sortOfPieces(int which) { return pieceList(marked(which == 0 ? 0 : 2)); }

    int pieces(int which) { return which < 0 || which > 1 ? -2 : sortOfPieces(which).size(); }

    int piece(int which, int i, int what) {
        if (which < 0 || which > 1 || what < 0 || what > 1) return -2;
        List<Integer> list = sortOfPieces(which);
        if (i < 0 || i >= list.size()) return -1;
        if (what == 0) return list.get(i);
        int hubs = 0;
        for (int p = 0; p < n; p++) if (mark(p) == 1 && (next(p) & list.get(i)) != 0) hubs |= 1 << p;
        return hubs;
    }

    int surplus(int hubs) {
        if (!set(hubs) || (hubs & ~marked(1)) != 0) return -2;
        int blocks = 0;
        for (int block : pieceList(marked(0))) {
            boolean touched = false;
            for (int p = 0; p < n; p++) touched |= in(p, block) && (next(p) & hubs) != 0;
            if (touched) blocks++;
        }
        return blocks - Integer.bitCount(hubs);
    }

    int odd(int s) {
        if (!set(s)) return -2;
        int odd = 0;
        for (int piece : pieceList(full() & ~s)) if (Integer.bitCount(piece) % 2 == 1) odd++;
        return odd;
    }

    int barrier(int s) {
        if (!set(s)) return -2;
        return odd(s) == Integer.bitCount(s) + facts().lack() ? 1 : 0;
    }

    int barriers(int what) {
        if (what < 0 || what > 2) return -2;
        int count = 0;
        int greatest = -1;
        int common = full();
        for (int s = 0; s <= full(); s++) {
            if (barrier(s) == 1) {
                count++;
                common &= s;
                if (greatest < 0 || Integer.bitCount(s) > Integer.bitCount(greatest)) greatest = s;
            }
        }
        return what == 0 ? count : what == 1 ? greatest : common;
    }

    int critical(int s) {
        if (!set(s)) return -2;
        if (Integer.bitCount(s) % 2 == 0) return 0;
        for (int p = 0; p < n; p++) if (in(p, s) && !facts().whole[s & ~(1 << p)]) return 0;
        return 1;
    }

    int ear(int s, int i) {
        if (!set(s)) return -2;
        if (critical(s) == 0) return -3;
        List<Integer> ears = new ArrayList<>();
        int had = s & -s;
        while (had != s) {
            int ear = firstEar(s, had);
            ears.add(ear);
            had |= ear;
        }
        if (i == -1) return ears.size();
        return i < 0 || i >= ears.size() ? -1 : ears.get(i);
    }

    private int firstEar(int s, int had) {
        for (int size = 2; size <= 12; size++) {
            for (int e = 1; e <= full(); e++) {
                boolean fits = Integer.bitCount(e) == size && (e & ~s) == 0 && (e & had) == 0;
                if (fits && critical(had | e) == 1 && facts().whole[s & ~had & ~e]) return e;
            }
        }
        throw new IllegalStateException("no ear");
    }

    int verdict(int a, int b) {
        if (!point(a) || !point(b) || a == b) return -2;
        if (!line[a][b]) return -1;
        boolean each = true;
        boolean some = false;
        for (int[] g : facts().greatest) {
            each &= g[a] == b;
            some |= g[a] == b;
        }
        return each ? 2 : some ? 1 : 0;
    }

    int verdicts(int v) {
        if (v < 0 || v > 2) return -2;
        int count = 0;
        for (int a = 0; a < n; a++) for (int b = a + 1; b < n; b++) if (verdict(a, b) == v) count++;
        return count;
    }

    int without(int p) {
        if (!point(p)) return -2;
        boolean[][] fewer = twin(line);
        for (int q = 0; q < 12; q++) fewer[p][q] = fewer[q][p] = false;
        // The POINT stays in the listing, alone: it is one more that is missed.
        return new Facts(n, fewer).lack() - 1;
    }

    int mends(int what) { return changed(what, false); }

    int breaks(int what) { return changed(what, true); }

    private int changed(int what, boolean from) {
        if (what < 0 || what > 1) return -2;
        List<Integer> found = new ArrayList<>();
        for (int a = 0; a < n; a++) {
            for (int b = a + 1; b < n; b++) {
                if (line[a][b] != from) continue;
                boolean[][] other = twin(line);
                other[a][b] = other[b][a] = !from;
                int lack = new Facts(n, other).lack();
                if (from ? lack > facts().lack() : lack < facts().lack()) found.add(12 * a + b);
            }
        }
        if (what == 1) return found.size();
        return found.isEmpty() ? -1 : found.get(0);
    }

    private static boolean place(int s) { return s >= 0 && s < 4; }

    private static int size(Object row) { return row instanceof short[] s ? s.length : ((int[]) row).length; }

    private static int at(Object row, int i) { return row instanceof short[] s ? s[i] : ((int[]) row)[i]; }

    private static void put(Object row, int i, int v) {
        if (row instanceof short[] s) s[i] = (short) v;
        else ((int[]) row)[i] = v;
    }

    private int[] toldBy(int s) {
        Object row = sheets[s];
        if (size(row) != n) return null;
        int[] told = new int[n];
        for (int p = 0; p < n; p++) {
            int q = at(row, p);
            if (q != -1 && (!point(q) || !line[p][q] || at(row, q) != p)) return null;
            told[p] = q;
        }
        return told;
    }

    int isTold(int s) {
        if (!place(s)) return -2;
        if (sheets[s] == null) return -11;
        return toldBy(s) == null ? 0 : 1;
    }

    private int refused(int s) {
        int is = isTold(s);
        return is < 0 ? is : is == 0 ? -3 : 0;
    }

    int misses(int s) { return refused(s) != 0 ? refused(s) : missed(toldBy(s)); }

    private List<Integer> wayOf(int[] told) {
        List<Integer> best = new ArrayList<>();
        for (int p = 0; p < n; p++) {
            if (told[p] < 0) {
                List<Integer> row = new ArrayList<>();
                row.add(p);
                wander(told, row, best);
            }
        }
        return best;
    }

    private void wander(int[] told, List<Integer> row, List<Integer> best) {
        int last = row.get(row.size() - 1);
        boolean ofIt = row.size() % 2 == 0;
        if (row.size() > 1 && told[last] < 0) {
            if (best.isEmpty() || row.size() < best.size()) {
                best.clear();
                best.addAll(row);
            }
            return;
        }
        // Rows come in the order of their POINTS, so of equally short ones the first one stays.
        for (int q = 0; q < n; q++) {
            if (line[last][q] && !row.contains(q) && (told[last] == q) == ofIt) {
                row.add(q);
                wander(told, row, best);
                row.remove(row.size() - 1);
            }
        }
    }

    int way(int s, int i) {
        if (refused(s) != 0) return refused(s);
        List<Integer> way = wayOf(toldBy(s));
        if (way.isEmpty()) return -1;
        if (i == -1) return way.size();
        return i < 0 || i >= way.size() ? -1 : way.get(i);
    }

    int grow(int s) {
        if (refused(s) != 0) return refused(s);
        int[] told = toldBy(s);
        List<Integer> way = wayOf(told);
        if (way.isEmpty()) return -1;
        Set<Integer> lines = lineSet(told);
        for (int i = 0; i + 1 < way.size(); i++) {
            int key = key(way.get(i), way.get(i + 1));
            if (!lines.remove(key)) lines.add(key);
        }
        Object row = sheets[s] instanceof short[] ? new short[n] : new int[n];
        for (int p = 0; p < n; p++) put(row, p, -1);
        for (int key : lines) {
            put(row, key / 12, key % 12);
            put(row, key % 12, key / 12);
        }
        sheets[s] = row;
        return lines.size();
    }

    private static int key(int a, int b) { return 12 * Math.min(a, b) + Math.max(a, b); }

    private static Set<Integer> lineSet(int[] told) {
        Set<Integer> lines = new TreeSet<>();
        for (int p = 0; p < told.length; p++) if (told[p] >= 0) lines.add(key(p, told[p]));
        return lines;
    }

    int chains(int s, int t, int what) {
        if (!place(s) || !place(t) || what < 0 || what > 2) return -2;
        if (sheets[s] == null || sheets[t] == null) return -11;
        int[] a = toldBy(s);
        int[] b = toldBy(t);
        if (a == null || b == null) return -3;
        Set<Integer> left = lineSet(a);
        for (int key : lineSet(b)) if (!left.remove(key)) left.add(key);
        int count = 0;
        int longest = 0;
        int rings = 0;
        while (!left.isEmpty()) {
            Set<Integer> ends = new HashSet<>();
            int lines = 0;
            int before;
            int first = left.iterator().next();
            ends.add(first / 12);
            do {
                before = lines;
                for (int key : new ArrayList<>(left)) {
                    if (ends.contains(key / 12) || ends.contains(key % 12)) {
                        ends.add(key / 12);
                        ends.add(key % 12);
                        left.remove(key);
                        lines++;
                    }
                }
            } while (lines != before);
            count++;
            longest = Math.max(longest, lines);
            if (ends.size() == lines) rings++;
        }
        return what == 0 ? count : what == 1 ? longest : rings;
    }

    int paint(int s, int sort) {
        if (!place(s) || sort < 0 || sort > 1) return -2;
        sheets[s] = sort == 0 ? new short[n] : new int[n];
        for (int p = 0; p < n; p++) put(sheets[s], p, thePairing()[p]);
        return n;
    }

    int feed(int bytes, int k) {
        if (k < 1 || k > 4) return -2;
        if (tape.size() + k > 120) return -4;
        for (int i = k - 1; i >= 0; i--) tape.add(bytes >> 8 * i & 255);
        return tape.size();
    }

    int wipe() {
        int had = tape.size();
        tape.clear();
        return had;
    }

    int text() {
        TextModel text = new TextModel(tape, n);
        tape.clear();
        if (text.fault >= 0) return -100 - text.fault;
        int fresh = 0;
        for (int[] two : text.lines) {
            if (!line[two[0]][two[1]]) fresh++;
            line[two[0]][two[1]] = line[two[1]][two[0]] = true;
        }
        facts = null;
        return fresh;
    }

    int seed(int v) {
        int was = z;
        z = v;
        return was;
    }

    private int draw() {
        z = z * 1103515245 + 12345;
        return z >>> 16;
    }

    private boolean[][] dealt(int k, int odds) {
        boolean[][] net = new boolean[12][12];
        for (int a = 0; a < k; a++) {
            for (int b = a + 1; b < k; b++) net[a][b] = net[b][a] = draw() % 10 < odds;
        }
        return net;
    }

    int deal(int k, int odds) {
        if (k < 0 || k > 12 || odds < 0 || odds > 10) return -2;
        n = k;
        line = dealt(k, odds);
        facts = null;
        return count(1);
    }

    int times(int k, int points, int odds, int lack) {
        if (k < 1 || k > 20 || points < 0 || points > 12 || odds < 0 || odds > 10 || lack < 0 || lack > 12) return -2;
        int was = z;
        int found = 0;
        for (int i = 0; i < k; i++) if (new Facts(points, dealt(points, odds)).lack() == lack) found++;
        z = was;
        return found;
    }

    int shelf(int h, int what, int k) {
        if (!place(h) || what < 0 || what > 5) return -2;
        if (what == 0) {
            if (!point(k)) return -2;
            shelves[h] = mark(k) == 1 ? new Key(1 << k) : new Spot(1 << k);
        } else if (what == 1 || what == 2) {
            List<Integer> list = sortOfPieces(what - 1);
            if (k < 0 || k >= list.size()) return -2;
            shelves[h] = what == 1 ? new Knot(list.get(k)) : new Pool(list.get(k));
        } else if (what == 3) {
            if (!set(k)) return -2;
            shelves[h] = new Area(k);
        } else if (what == 4) {
            if (!place(k)) return -2;
            if (sheets[k] == null) return -11;
            shelves[h] = sheets[k];
        } else {
            shelves[h] = null;
        }
        return 1;
    }

    int taken(int h, int as) {
        if (!place(h) || !(as >= 0 && as <= 5 || as == 10 || as == 11)) return -2;
        Object held = shelves[h];
        if (held == null) return -11;
        if (as == 10) return held instanceof short[] s ? s.length : -13;
        if (as == 11) return held instanceof int[] s ? s.length : -13;
        return KINDS.get(as).isInstance(held) ? ((Thing) held).set : -13;
    }

    int held(int kind, int what) {
        if (kind < 0 || kind > 5 || what < 0 || what > 2) return -2;
        int count = 0;
        int set = 0;
        int best = -1;
        for (int h = 0; h < 4; h++) {
            if (!KINDS.get(kind).isInstance(shelves[h])) continue;
            int own = ((Thing) shelves[h]).set;
            count++;
            set |= own;
            if (best < 0 || Integer.bitCount(own) > Integer.bitCount(((Thing) shelves[best]).set)) best = h;
        }
        return what == 0 ? count : what == 1 ? set : best;
    }

    int sheet(int s, int sort, int k) {
        if (!place(s) || sort < -1 || sort > 1 || sort >= 0 && k > 40) return -2;
        if (sort >= 0 && k < 0) return -14;
        sheets[s] = sort < 0 ? null : sort == 0 ? new short[k] : new int[k];
        return 1;
    }

    int write(int s, int i, int v) {
        if (!place(s)) return -2;
        if (sheets[s] == null) return -11;
        if (i < 0 || i >= size(sheets[s])) return -12;
        put(sheets[s], i, v);
        return 1;
    }

    int item(int s, int i) {
        if (!place(s)) return -2;
        if (sheets[s] == null) return -11;
        return i < 0 || i >= size(sheets[s]) ? -12 : at(sheets[s], i);
    }

    int copy(int s, int i, int t, int j, int k) {
        if (!place(s) || !place(t)) return -2;
        if (sheets[s] == null || sheets[t] == null) return -11;
        if (sheets[s].getClass() != sheets[t].getClass()) return -13;
        boolean inside = i >= 0 && j >= 0 && k >= 0
            && (long) i + k <= size(sheets[s]) && (long) j + k <= size(sheets[t]);
        if (!inside) return -12;
        int[] kept = new int[k];
        for (int d = 0; d < k; d++) kept[d] = at(sheets[s], i + d);
        for (int d = 0; d < k; d++) put(sheets[t], j + d, kept[d]);
        return k;
    }

    int image() {
        imageN = n;
        imageZ = z;
        imageLine = twin(line);
        return n;
    }

    int back() {
        if (imageN < 0) return -3;
        n = imageN;
        z = imageZ;
        line = twin(imageLine);
        facts = null;
        return n;
    }
}
