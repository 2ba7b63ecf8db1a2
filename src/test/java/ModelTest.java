import java.util.ArrayDeque;
import java.util.ArrayList;
import java.util.Deque;
import java.util.List;
import java.util.Random;

/** Random runs of calls, wild ones among them, on the class and on the model: the same answers. */
public final class ModelTest {
    private static final String[] PIECES = {"0", "1", "2", "3", "4", "5", "6", "7", "10", "11", "99", "100", "007",
        "110", "-", "-", "-", ",", ",", "(", ")", "[", "]", " ", " ", "  ", "x"};

    private final Random random;
    private final MissedPoints x = new MissedPoints();
    private final Model m = new Model();
    private final List<String> told = new ArrayList<>();
    private final Deque<Integer> bytes = new ArrayDeque<>();
    private final int size;
    private boolean wrong;

    private ModelTest(long seed, int size) {
        random = new Random(seed);
        this.size = size;
    }

    public static void main(String[] args) {
        int runs = args.length > 0 ? Integer.parseInt(args[0]) : 1500;
        int bad = 0;
        for (int i = 0; i < runs; i++) {
            // Most nets are small, so that listing all their PAIRINGS costs little.
            ModelTest run = new ModelTest(i, i % 10 == 0 ? 12 : 4 + i % 6);
            if (!run.passes()) bad++;
        }
        System.out.println("ModelTest: " + runs + " runs, " + bad + " with a wrong answer");
        if (bad != 0) System.exit(1);
    }

    private boolean passes() {
        // An object is promised to answer 512 calls; one step here makes up to some forty.
        for (int i = 0; i < 500 && told.size() < 470 && !wrong; i++) call();
        return !wrong;
    }

    private void due(String call, int got, int want) {
        told.add(call + " = " + got);
        if (got != want && !wrong) {
            wrong = true;
            for (String row : told) System.out.println("  " + row);
            System.out.println("  due was " + want);
        }
    }

    private int r(int from, int to) { return from + random.nextInt(to - from + 1); }

    /** Mostly from 0 to top, at times just outside of it, seldom far outside. */
    private int arg(int top) {
        int luck = random.nextInt(40);
        if (luck == 0) return -1;
        if (luck == 1) return top + 1;
        if (luck == 2) return new int[] {Integer.MIN_VALUE, Integer.MAX_VALUE, -2, 31, 32, 33, 4096, -4096}[r(0, 7)];
        return r(0, top);
    }

    private int p() { return arg(m.n - 1 < 0 ? 0 : m.n - 1); }

    private int set() { return arg((1 << m.n) - 1); }

    private void call() {
        int pick = random.nextInt(100);
        if (pick < 16) change();
        else if (pick < 30) ask();
        else if (pick < 45) part();
        else if (pick < 60) show();
        else if (pick < 80) rows();
        else if (pick < 90) things();
        else tape();
    }

    private void change() {
        int a = p(), b = p(), c = arg(1), n = arg(size), odds = arg(10), k = arg(3);
        switch (r(0, 9)) {
            case 0:
                if (m.n + k <= size || k > 12) due("points(" + k + ")", x.points(k), m.points(k));
                break;
            case 1: case 2: case 3: case 4:
                due("line(" + a + ", " + b + ", " + c + ")", x.line(a, b, c), m.line(a, b, c));
                break;
            case 5:
                if (n <= size || n > 12) due("deal(" + n + ", " + odds + ")", x.deal(n, odds), m.deal(n, odds));
                break;
            case 6:
                odds = r(1, 4);
                due("deal(" + size + ", " + odds + ")", x.deal(size, odds), m.deal(size, odds));
                break;
            case 7: due("image()", x.image(), m.image()); break;
            case 8: if (random.nextInt(3) == 0) due("back()", x.back(), m.back()); break;
            default:
                int v = random.nextInt();
                due("seed(" + v + ")", x.seed(v), m.seed(v));
        }
    }

    private void ask() {
        int a = p(), c = arg(1), set = set(), what = arg(6);
        switch (r(0, 6)) {
            case 0: due("next(" + a + ")", x.next(a), m.next(a)); break;
            case 1: due("count(" + what + ")", x.count(what), m.count(what)); break;
            case 2: due("most(" + set + ")", x.most(set), m.most(set)); break;
            case 3: due("mate(" + a + ")", x.mate(a), m.mate(a)); break;
            case 4: due("ways(" + what + ")", x.ways(what), m.ways(what)); break;
            case 5: due("alone(" + a + ", " + c + ")", x.alone(a, c), m.alone(a, c)); break;
            default: times();
        }
    }

    private void times() {
        int n = arg(3), points = arg(size), odds = arg(10), k = arg(3);
        if (points > size && points <= 12 || n > 3 && n <= 20) return;
        due("times(" + n + ", " + points + ", " + odds + ", " + k + ")",
            x.times(n, points, odds, k), m.times(n, points, odds, k));
    }

    private void part() {
        int a = p(), c = arg(1), d = arg(1), what = arg(2), i = arg(3);
        int hubs = random.nextInt(3) == 0 ? set() : set() & m.marked(1);
        switch (r(0, 4)) {
            case 0: due("mark(" + a + ")", x.mark(a), m.mark(a)); break;
            case 1: due("marked(" + what + ")", x.marked(what), m.marked(what)); break;
            case 2: due("pieces(" + c + ")", x.pieces(c), m.pieces(c)); break;
            case 3:
                due("piece(" + c + ", " + i + ", " + d + ")", x.piece(c, i, d), m.piece(c, i, d));
                break;
            default: due("surplus(" + hubs + ")", x.surplus(hubs), m.surplus(hubs));
        }
    }

    private void show() {
        int a = p(), b = p(), set = set(), what = arg(2), one = arg(1);
        // The costly calls of the model come seldom on great nets.
        boolean heavy = m.n < 10 || random.nextInt(20) == 0;
        switch (r(0, 9)) {
            case 0: due("odd(" + set + ")", x.odd(set), m.odd(set)); break;
            case 1: due("barrier(" + set + ")", x.barrier(set), m.barrier(set)); break;
            case 2: due("barriers(" + what + ")", x.barriers(what), m.barriers(what)); break;
            case 3: due("critical(" + set + ")", x.critical(set), m.critical(set)); break;
            case 4: ear(); break;
            case 5: due("verdict(" + a + ", " + b + ")", x.verdict(a, b), m.verdict(a, b)); break;
            case 6: due("verdicts(" + what + ")", x.verdicts(what), m.verdicts(what)); break;
            case 7: due("without(" + a + ")", x.without(a), m.without(a)); break;
            case 8: if (heavy) due("mends(" + one + ")", x.mends(one), m.mends(one)); break;
            default: if (heavy) due("breaks(" + one + ")", x.breaks(one), m.breaks(one));
        }
    }

    private void ear() {
        int set = set(), i = arg(4) - 1;
        for (int k = 0; k < 30 && m.critical(set) != 1 && random.nextInt(20) != 0; k++) set = set();
        due("ear(" + set + ", " + i + ")", x.ear(set, i), m.ear(set, i));
    }

    private void rows() {
        int s = arg(3), t = arg(3), i = arg(12), j = arg(12), n = arg(6), sort = arg(2) - 1, one = arg(1), what = arg(2);
        switch (r(0, 12)) {
            case 0: due("paint(" + s + ", " + one + ")", x.paint(s, one), m.paint(s, one)); break;
            case 1: case 2: case 3: tellPairing(r(0, 3)); break;
            case 4: due("isTold(" + s + ")", x.isTold(s), m.isTold(s)); break;
            case 5: due("misses(" + s + ")", x.misses(s), m.misses(s)); break;
            case 6: due("way(" + s + ", " + (i - 1) + ")", x.way(s, i - 1), m.way(s, i - 1)); break;
            case 7: due("grow(" + s + ")", x.grow(s), m.grow(s)); break;
            case 8:
                due("chains(" + s + ", " + t + ", " + what + ")", x.chains(s, t, what), m.chains(s, t, what));
                break;
            case 9:
                n = arg(40);
                due("sheet(" + s + ", " + sort + ", " + n + ")", x.sheet(s, sort, n), m.sheet(s, sort, n));
                break;
            case 10:
                int v = random.nextBoolean() ? random.nextInt() : p();
                due("write(" + s + ", " + i + ", " + v + ")", x.write(s, i, v), m.write(s, i, v));
                break;
            case 11:
                due("copy(" + s + ", " + i + ", " + t + ", " + j + ", " + n + ")",
                    x.copy(s, i, t, j, n), m.copy(s, i, t, j, n));
                break;
            default:
        }
        for (int k = 0; k < 3; k++) {
            s = arg(3);
            i = arg(12);
            due("item(" + s + ", " + i + ")", x.item(s, i), m.item(s, i));
        }
    }

    /** A PAIRING that isn't a GREATEST one, mostly, so that there are WAYS and CHAINS. */
    private void tellPairing(int s) {
        int[] mates = new int[m.n];
        java.util.Arrays.fill(mates, -1);
        int tries = r(0, 12);
        for (int k = 0; k < tries && m.n > 1; k++) {
            int a = r(0, m.n - 1), b = r(0, m.n - 1);
            if (a != b && mates[a] < 0 && mates[b] < 0 && (m.next(a) >> b & 1) != 0) {
                mates[a] = b;
                mates[b] = a;
            }
        }
        int sort = r(0, 1);
        due("sheet(" + s + ", " + sort + ", " + m.n + ")", x.sheet(s, sort, m.n), m.sheet(s, sort, m.n));
        for (int p = 0; p < m.n; p++) {
            due("write(" + s + ", " + p + ", " + mates[p] + ")", x.write(s, p, mates[p]), m.write(s, p, mates[p]));
        }
        due("isTold(" + s + ")", x.isTold(s), m.isTold(s));
        due("misses(" + s + ")", x.misses(s), m.misses(s));
        for (int i = -1; i < 4; i++) due("way(" + s + ", " + i + ")", x.way(s, i), m.way(s, i));
        for (int t = 0; t < 4; t++) {
            for (int what = 0; what < 3; what++) {
                due("chains(" + s + ", " + t + ", " + what + ")", x.chains(s, t, what), m.chains(s, t, what));
            }
        }
        if (random.nextBoolean()) due("grow(" + s + ")", x.grow(s), m.grow(s));
    }

    private void things() {
        int h = arg(3), what = arg(5), n = what == 3 ? set() : what == 4 ? arg(3) : p(), as = arg(5), kind = arg(5);
        if (random.nextInt(3) == 0) as = r(9, 12);
        if (what == 1 || what == 2) n = arg(2);
        switch (r(0, 2)) {
            case 0:
                due("shelf(" + h + ", " + what + ", " + n + ")", x.shelf(h, what, n), m.shelf(h, what, n));
                break;
            case 1: due("taken(" + h + ", " + as + ")", x.taken(h, as), m.taken(h, as)); break;
            default:
                what = arg(2);
                due("held(" + kind + ", " + what + ")", x.held(kind, what), m.held(kind, what));
        }
    }

    private void tape() {
        int pick = random.nextInt(20);
        if (pick == 0) {
            due("wipe()", x.wipe(), m.wipe());
        } else if (pick == 1) {
            int v = random.nextInt(), n = arg(5);
            due("feed(" + v + ", " + n + ")", x.feed(v, n), m.feed(v, n));
        } else if (pick < 8) {
            feed(noise());
        } else if (pick < 16) {
            feed(goodItem() + (random.nextInt(3) == 0 ? "," + goodItem() : ""));
            due("text()", x.text(), m.text());
        } else {
            due("text()", x.text(), m.text());
        }
    }

    private String noise() {
        StringBuilder b = new StringBuilder();
        int pieces = r(1, 8);
        for (int i = 0; i < pieces; i++) b.append(PIECES[r(0, PIECES.length - 1)]);
        return b.toString();
    }

    private String goodItem() {
        if (m.n < 4) return "0";
        List<Integer> points = new ArrayList<>();
        for (int p = 0; p < m.n; p++) points.add(p);
        java.util.Collections.shuffle(points, random);
        points = points.subList(0, r(1, 4));
        String joint = random.nextBoolean() ? " " : "  ";
        int pick = random.nextInt(8);
        StringBuilder b = new StringBuilder();
        if (pick < 2) b.append('(');
        if (pick == 2 || pick == 3) b.append('[');
        for (int i = 0; i < points.size(); i++) b.append(i == 0 ? "" : pick < 4 ? joint : "-").append(points.get(i));
        if (pick < 2) b.append(')');
        if (pick == 2 || pick == 3) b.append(']');
        return b.toString();
    }

    private void feed(String text) {
        for (int i = 0; i < text.length(); i++) bytes.add((int) text.charAt(i));
        while (!bytes.isEmpty()) {
            int n = Math.min(bytes.size(), r(1, 4));
            int v = random.nextInt() << 8 | bytes.remove();
            for (int i = 1; i < n; i++) v = v << 8 | bytes.remove();
            due("feed(" + v + ", " + n + ")", x.feed(v, n), m.feed(v, n));
        }
    }
}
