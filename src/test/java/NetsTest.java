import java.util.Random;

/** Every question with every argument, on all nets of up to five POINTS and on drawn greater ones. */
public final class NetsTest {
    private static int nets = 0;
    private static int wrong = 0;

    private final Model m = new Model();
    private MissedPoints x;
    private int calls;

    private NetsTest(int n, long lines) {
        if (n > 0) m.points(n);
        int bit = 0;
        for (int a = 0; a < n; a++) {
            for (int b = a + 1; b < n; b++) m.line(a, b, (int) (lines >> bit++ & 1));
        }
        nets++;
    }

    public static void main(String[] args) {
        for (int n = 0; n <= 5; n++) {
            for (long lines = 0; lines < 1L << n * (n - 1) / 2; lines++) new NetsTest(n, lines).askAll();
        }
        Random random = new Random(45);
        for (int i = 0; i < 150; i++) {
            int n = i < 140 ? 6 + i % 3 : 11 + i % 2;
            // Two draws that must agree make thin nets, which have more of the three parts.
            long lines = i % 3 == 0 ? random.nextLong() : random.nextLong() & random.nextLong();
            if (i % 5 == 0) lines &= random.nextLong();
            new NetsTest(n, lines).askAll();
        }
        System.out.println("NetsTest: " + nets + " nets, " + wrong + " wrong answers");
        if (wrong != 0) System.exit(1);
    }

    /** The same net in an object that has calls left. */
    private MissedPoints x() {
        if (x == null || calls >= 400) {
            x = new MissedPoints();
            calls = 0;
            if (m.n > 0) x.points(m.n);
            for (int a = 0; a < m.n; a++) {
                for (int b = a + 1; b < m.n; b++) if (m.line[a][b]) x.line(b, a, 1);
            }
        }
        calls++;
        return x;
    }

    private void due(String call, int got, int want) {
        if (got == want) return;
        wrong++;
        StringBuilder net = new StringBuilder();
        for (int p = 0; p < m.n; p++) net.append(' ').append(m.next(p));
        System.out.println("net" + net + ": " + call + " answered " + got + ", due is " + want);
    }

    private void askAll() {
        int n = m.n;
        for (int v = -1; v <= 7; v++) {
            due("count " + v, x().count(v == 6 ? 0 : v), m.count(v == 6 ? 0 : v));
            due("ways " + v, x().ways(v), m.ways(v));
            due("marked " + v, x().marked(v), m.marked(v));
            due("verdicts " + v, x().verdicts(v), m.verdicts(v));
            due("barriers " + v, x().barriers(v), m.barriers(v));
            due("pieces " + v, x().pieces(v), m.pieces(v));
        }
        for (int p = -1; p <= n; p++) askPoint(p);
        for (int which = -1; which <= 2; which++) {
            for (int i = -1; i <= n; i++) {
                due("piece", x().piece(which, i, 0), m.piece(which, i, 0));
                due("piece", x().piece(which, i, 1), m.piece(which, i, 1));
            }
        }
        for (int what = -1; what <= (n > 8 ? -1 : 2); what++) {
            due("mends " + what, x().mends(what), m.mends(what));
            due("breaks " + what, x().breaks(what), m.breaks(what));
        }
        int step = n > 8 ? 97 : 1;
        for (int set = -1; set <= 1 << n; set += step) askSet(set);
    }

    private void askPoint(int p) {
        due("next " + p, x().next(p), m.next(p));
        due("mate " + p, x().mate(p), m.mate(p));
        due("mark " + p, x().mark(p), m.mark(p));
        due("alone " + p, x().alone(p, 0), m.alone(p, 0));
        due("alone " + p, x().alone(p, 1), m.alone(p, 1));
        due("without " + p, x().without(p), m.without(p));
        for (int q = -1; q <= m.n; q++) due("verdict " + p + " " + q, x().verdict(p, q), m.verdict(p, q));
    }

    private void askSet(int set) {
        due("most " + set, x().most(set), m.most(set));
        due("odd " + set, x().odd(set), m.odd(set));
        due("barrier " + set, x().barrier(set), m.barrier(set));
        due("critical " + set, x().critical(set), m.critical(set));
        due("surplus " + set, x().surplus(set), m.surplus(set));
        int ears = m.ear(set, -1);
        due("ears " + set, x().ear(set, -1), ears);
        for (int i = -2; i <= Math.max(0, ears); i++) due("ear " + set + " " + i, x().ear(set, i), m.ear(set, i));
    }
}
