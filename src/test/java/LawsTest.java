/** What must hold between the answers on any net, looked at on drawn nets up to the greatest ones. */
public final class LawsTest extends Bench {
    private static final int NETS = 600;

    private final MissedPoints x = new MissedPoints();
    private final int points;
    private final int lack;
    private final int lines;
    private final int loose;
    private final int hubs;
    private final int rest;

    private LawsTest(int seed, int points, int odds) {
        this.points = points;
        x.seed(seed);
        x.deal(points, odds);
        lines = x.count(2);
        lack = x.count(3);
        loose = x.marked(0);
        hubs = x.marked(1);
        rest = x.marked(2);
    }

    public static void main(String[] args) {
        for (int i = 0; i < NETS; i++) {
            // Thin nets have more of the three parts, so most nets are thin.
            LawsTest net = new LawsTest(7919 * i, i % 4 == 0 ? i / 4 % 13 : 11 + i % 2, i % 5 == 0 ? i / 5 % 11 : 1 + i % 3);
            net.parts();
            net.blocks();
            net.calmOnes();
            net.witnesses();
            net.pairings();
            net.verdicts();
            net.pointsLess();
            net.mends();
            net.growing();
        }
        end("LawsTest");
    }

    private static int size(int set) { return Integer.bitCount(set); }

    private static boolean has(int set, int p) { return (set >> p & 1) != 0; }

    private void parts() {
        promise(11);
        due("each POINT has one MARK", size(loose) + size(hubs) + size(rest), points);
        due("each POINT has one MARK", loose | hubs | rest, (1 << points) - 1);
        due("LACK and LINES make all POINTS", lack + 2 * lines, points);
        due("no LOOSE POINTS just where none is MISSED", loose == 0 ? 1 : 0, lack == 0 ? 1 : 0);
        for (int p = 0; p < points; p++) {
            due("mark of " + p, x.mark(p), has(loose, p) ? 0 : has(hubs, p) ? 1 : 2);
            if (has(rest, p)) due("the REST isn't NEXT to LOOSE ones", x.next(p) & loose, 0);
        }
    }

    private void blocks() {
        promise(13);
        int all = 0;
        for (int i = 0; i < x.pieces(0); i++) {
            int block = x.piece(0, i, 0);
            due("BLOCKS are apart", all & block, 0);
            all |= block;
            due("a BLOCK is CRITICAL", x.critical(block), 1);
            due("HUBS NEXT to it are HUBS", x.piece(0, i, 1) & ~hubs, 0);
            ears(block);
        }
        due("BLOCKS are all LOOSE ones", all, loose);
        due("more BLOCKS than HUBS by LACK", x.pieces(0) - size(hubs), lack);
        promise(14);
        due("SURPLUS of all HUBS", x.surplus(hubs), hubs == 0 ? 0 : lack - blocksWithoutHub());
        for (int set = hubs; set != 0; set = set - 1 & hubs) {
            if (size(set) <= 2) due("SURPLUS is above 0", Math.min(x.surplus(set), 1), 1);
        }
    }

    private int blocksWithoutHub() {
        int found = 0;
        for (int i = 0; i < x.pieces(0); i++) if (x.piece(0, i, 1) == 0) found++;
        return found;
    }

    private void ears(int block) {
        promise(19);
        int had = Integer.lowestOneBit(block);
        for (int i = 0; i < x.ear(block, -1); i++) {
            int ear = x.ear(block, i);
            due("an EAR is of the set, not HAD", ear & (had | ~block), 0);
            due("an EAR has an even number of POINTS", size(ear) % 2, 0);
            had |= ear;
            due("HAD is CRITICAL", x.critical(had), 1);
            due("what is left is WHOLE", 2 * x.most(block & ~had), size(block & ~had));
        }
        due("all of it is HAD", had, block);
        promise(13);
    }

    private void calmOnes() {
        promise(13);
        int all = 0;
        for (int i = 0; i < x.pieces(1); i++) {
            int calm = x.piece(1, i, 0);
            all |= calm;
            due("a CALM one is WHOLE", 2 * x.most(calm), size(calm));
        }
        due("CALM ones are all of the REST", all, rest);
    }

    private void witnesses() {
        promise(16);
        due("HUBS are a BARRIER", x.barrier(hubs), 1);
        due("ODD of HUBS are the BLOCKS", x.odd(hubs), x.pieces(0));
        promise(17);
        int most = x.barriers(1);
        int common = x.barriers(2);
        due("that with most POINTS is a BARRIER", x.barrier(most), 1);
        due("it has as many as HUBS at least", Math.min(size(most) - size(hubs), 0), 0);
        due("no LOOSE one is in a BARRIER", most & loose, 0);
        due("those in each are in HUBS", common & ~hubs, 0);
        due("those in each are in that one", common & ~most, 0);
    }

    private void pairings() {
        promise(8);
        due("PAIRINGS of one LINE are the LINES", x.ways(1), x.count(1));
        if (lines < 6) due("none has more LINES", x.ways(lines + 1), 0);
        promise(9);
        int all = x.ways(lines);
        int missed = 0;
        for (int p = 0; p < points; p++) {
            int above = x.alone(p, 0);
            int below = x.alone(p, 1);
            due("LOOSE just if some miss it", above > 0 ? 1 : 0, has(loose, p) ? 1 : 0);
            due("it goes into all", all % below, 0);
            missed += all / below * above;
        }
        due("each misses LACK POINTS", missed, all * lack);
    }

    private void verdicts() {
        promise(21);
        due("each LINE has one verdict", x.verdicts(0) + x.verdicts(1) + x.verdicts(2), x.count(1));
        promise(24);
        due("those are broken that are FORCED", x.breaks(1), x.verdicts(2));
        for (int p = 0; p < points; p++) {
            int mate = x.mate(p);
            if (mate > p) due("a LINE of THE PAIRING is ALLOWED", Math.min(x.verdict(p, mate), 1), 1);
        }
    }

    private void pointsLess() {
        promise(22);
        for (int p = 0; p < points; p++) due("LACK without " + p, x.without(p), has(loose, p) ? lack - 1 : lack + 1);
    }

    /** The two of a mend are LOOSE, and the second is so also without the first. */
    private void mends() {
        promise(23);
        int first = x.mends(0);
        due("a first one just where there are some", first >= 0 ? 1 : 0, x.mends(1) > 0 ? 1 : 0);
        if (first < 0) return;
        due("its POINTS are LOOSE", has(loose, first / 12) && has(loose, first % 12) ? 1 : 0, 1);
        due("there was no LINE", x.line(first / 12, first % 12, 1), 0);
        due("LACK is less by two", x.count(3), lack - 2);
        due("it would be missed again", x.verdict(first / 12, first % 12), 2);
        ready("it goes", x.line(first / 12, first % 12, 0), 1);
    }

    private void growing() {
        promise(30);
        due("THE PAIRING is painted", x.paint(0, 0), points);
        due("it misses LACK POINTS", size(x.misses(0)), lack);
        due("it has no WAY", x.way(0, -1), NONE);
        promise(28);
        ready("a row", x.sheet(1, 1, points), 1);
        for (int p = 0; p < points; p++) ready("none has a MATE", x.write(1, p, -1), 1);
        for (int i = 1; i <= lines; i++) due("a LINE more by each WAY", x.grow(1), i);
        due("till it is a GREATEST one", x.grow(1), NONE);
        promise(29);
        due("two GREATEST ones: CHAINS of even numbers of LINES", x.chains(0, 1, 1) % 2, 0);
    }
}
