/** Each promise by hand: ordinary inputs, the edges that the document names, wrong inputs. */
public final class PromiseTest extends Bench {
    public static void main(String[] args) {
        newObject();
        points();
        line();
        nextAndCount();
        mostAndMate();
        waysAndAlone();
        marks();
        piecesAndSurplus();
        oddAndBarriers();
        criticalAndEars();
        verdicts();
        oneMoreOneLess();
        toldBySheets();
        waysOfSheets();
        chains();
        paint();
        tape();
        textsThatAreRight();
        textsWithFault();
        draws();
        shelves();
        held();
        sheets();
        copies();
        image();
        fullNets();
        longWays();
        fullTape();
        end("PromiseTest");
    }

    private static void newObject() {
        MissedPoints x = new MissedPoints();
        int[] counts = {0, 0, 0, 0, 0, 0, 1};
        for (int i = 0; i < counts.length; i++) due("new count " + i, x.count(i), counts[i]);
        for (int i = 0; i < 4; i++) {
            due("new taken", x.taken(i, 0), NOTHING);
            due("new item", x.item(i, 0), NOTHING);
        }
        due("new back", x.back(), STATE);
        due("new next", x.next(0), BAD);
        due("new most", x.most(0), 0);
        due("new most", x.most(1), BAD);
        due("new ways 0", x.ways(0), 1);
        due("new barriers", x.barriers(0), 1);
        due("new barriers", x.barriers(1), 0);
        due("new barriers", x.barriers(2), 0);
        due("new odd", x.odd(0), 0);
        due("new mends", x.mends(0), NONE);
        due("new breaks", x.breaks(1), 0);
        due("new text", x.text(), -100);
    }

    private static void points() {
        MissedPoints x = new MissedPoints();
        for (int n : new int[] {0, -1, 13, LEAST, MOST}) due("points " + n, x.points(n), BAD);
        due("points 5", x.points(5), 5);
        due("points 8", x.points(8), FULL);
        due("points 12", x.points(12), FULL);
        due("points 13", x.points(13), BAD);
        due("count 0", x.count(0), 5);
        due("points 7", x.points(7), 12);
        due("points 1", x.points(1), FULL);
        due("points 12 at once", new MissedPoints().points(12), 12);
        MissedPoints y = net(2, "0-1");
        due("more points", y.points(1), 3);
        due("lack", y.count(3), 1);
        due("new one has no lines", y.next(2), 0);
    }

    private static void line() {
        MissedPoints x = net(3, "");
        due("line on", x.line(2, 0, 1), 0);
        due("line on", x.line(0, 2, 1), 1);
        due("next", x.next(0), 4);
        due("next", x.next(2), 1);
        due("line off", x.line(0, 2, 0), 1);
        due("line off", x.line(2, 0, 0), 0);
        due("next", x.next(0), 0);
        due("next", x.next(2), 0);
        due("one point", x.line(1, 1, 1), BAD);
        for (int p : new int[] {-1, 3, 32, LEAST, MOST}) {
            due("line", x.line(p, 0, 1), BAD);
            due("line", x.line(0, p, 0), BAD);
        }
        for (int on : new int[] {-1, 2, LEAST, MOST}) due("on", x.line(0, 1, on), BAD);
        due("nothing changed", x.count(1), 0);
    }

    private static void nextAndCount() {
        MissedPoints x = net(7, "0-1-2,[3 4 5]");
        due("next 1", x.next(1), 5);
        due("next 4", x.next(4), 8 | 32);
        due("next 6", x.next(6), 0);
        for (int p : new int[] {-1, 7, 12, 32, LEAST, MOST}) due("next " + p, x.next(p), BAD);
        due("feed", x.feed(0, 3), 3);
        due("seed", x.seed(-77), 1);
        int[] counts = {7, 5, 2, 3, 3, 3, -77};
        for (int i = 0; i < counts.length; i++) due("count " + i, x.count(i), counts[i]);
        for (int i : new int[] {-1, 7, LEAST, MOST}) due("count " + i, x.count(i), BAD);
    }

    private static void mostAndMate() {
        MissedPoints x = net(6, "0-1-2-3,1-3,4-5");
        due("most", x.most(63), 3);
        due("most", x.most(0), 0);
        due("most", x.most(1), 0);
        due("most", x.most(1 | 4), 0);
        due("most", x.most(2 | 4 | 8), 1);
        due("most", x.most(1 | 2 | 16 | 32), 2);
        for (int s : new int[] {64, -1, 127, LEAST, MOST}) due("most " + s, x.most(s), BAD);
        int[] mates = {1, 0, 3, 2, 5, 4};
        for (int p = 0; p < 6; p++) due("mate " + p, x.mate(p), mates[p]);
        for (int p : new int[] {-1, 6, LEAST, MOST}) due("mate " + p, x.mate(p), BAD);
        // A row: 0 must have its least MATE, although others could then be MISSED later.
        MissedPoints row = net(3, "0-2-1");
        due("mate 0", row.mate(0), 2);
        due("mate 1", row.mate(1), NONE);
        due("mate 2", row.mate(2), 0);
        // The least MATE of 0 would cost a LINE: 0-1 leaves 2 and 3 without one.
        MissedPoints far = net(4, "0-1,0-2,1-3");
        due("mate 0", far.mate(0), 2);
        due("mate 1", far.mate(1), 3);
        // MISSED stands behind all numbers, also where the last one could have been MISSED.
        MissedPoints ring = net(5, "(0 1 2 3 4)");
        due("mate 4", ring.mate(4), NONE);
        due("mate 2", ring.mate(2), 3);
    }

    private static void waysAndAlone() {
        MissedPoints x = net(12, "[0 1 2 3 4 5 6 7 8 9 10 11]");
        int[] ways = {1, 66, 1485, 13860, 51975, 62370, 10395};
        for (int k = 0; k <= 6; k++) due("ways " + k, x.ways(k), ways[k]);
        for (int k : new int[] {-1, 7, LEAST, MOST}) due("ways " + k, x.ways(k), BAD);
        due("alone in a whole", x.alone(0, 0), 0);
        due("alone in a whole", x.alone(0, 1), 1);
        MissedPoints star = net(4, "0-1,0-2,0-3");
        due("alone", star.alone(0, 0), 0);
        due("alone", star.alone(0, 1), 1);
        due("alone", star.alone(3, 0), 2);
        due("alone", star.alone(3, 1), 3);
        due("ways 1", star.ways(1), 3);
        due("ways 2", star.ways(2), 0);
        MissedPoints bare = net(2, "");
        due("alone always", bare.alone(1, 0), 1);
        due("alone always", bare.alone(1, 1), 1);
        // 6 of 12 become 1 of 2.
        MissedPoints two = net(6, "0-1-2,(3 4 5)");
        due("lowest terms", two.alone(0, 0), 1);
        due("lowest terms", two.alone(0, 1), 2);
        for (int p : new int[] {-1, 4, LEAST, MOST}) due("alone " + p, star.alone(p, 0), BAD);
        for (int part : new int[] {-1, 2, LEAST, MOST}) due("part " + part, star.alone(0, part), BAD);
    }

    private static void marks() {
        MissedPoints x = net(6, "0-1,0-2,0-3,3-4-5");
        // 1 and 2 are LOOSE, 0 is their HUB; 3 too, for 4 may have 5.
        int[] marks = {1, 0, 0, 0, 1, 0};
        due("lack", x.count(3), 2);
        for (int p = 0; p < 6; p++) due("mark " + p, x.mark(p), marks[p]);
        due("marked 0", x.marked(0), 2 | 4 | 8 | 32);
        due("marked 1", x.marked(1), 1 | 16);
        due("marked 2", x.marked(2), 0);
        MissedPoints y = net(5, "0-1-2-3,4-1");
        due("mark of the rest", y.mark(2), 2);
        due("marked 2", y.marked(2), 4 | 8);
        due("marked 1", y.marked(1), 2);
        for (int p : new int[] {-1, 6, LEAST, MOST}) due("mark " + p, x.mark(p), BAD);
        for (int m : new int[] {-1, 3, LEAST, MOST}) due("marked " + m, x.marked(m), BAD);
    }

    private static void piecesAndSurplus() {
        MissedPoints x = net(12, "5-6,5-0,5-1,(2 3 4),5-2,6-7,8-9,10-11");
        due("lack", x.count(3), 2);
        due("marked", x.marked(0), 31);
        due("pieces 0", x.pieces(0), 3);
        due("pieces 1", x.pieces(1), 3);
        due("block 0", x.piece(0, 0, 0), 1);
        due("block 1", x.piece(0, 1, 0), 2);
        due("block 2", x.piece(0, 2, 0), 4 | 8 | 16);
        due("block 2 hubs", x.piece(0, 2, 1), 32);
        due("calm 0", x.piece(1, 0, 0), 64 | 128);
        due("calm 0 hubs", x.piece(1, 0, 1), 32);
        due("calm 1", x.piece(1, 1, 0), 256 | 512);
        due("calm 1 hubs", x.piece(1, 1, 1), 0);
        for (int i : new int[] {-1, 3, LEAST, MOST}) {
            due("no block", x.piece(0, i, 0), NONE);
            due("no calm one", x.piece(1, i, 1), NONE);
            due("bad ahead of none", x.piece(1, i, 2), BAD);
        }
        for (int v : new int[] {-1, 2, LEAST, MOST}) {
            due("pieces", x.pieces(v), BAD);
            due("piece", x.piece(v, 0, 0), BAD);
            due("piece", x.piece(0, 0, v), BAD);
        }
        due("surplus", x.surplus(32), 2);
        due("surplus of none", x.surplus(0), 0);
        for (int s : new int[] {1, 33, 64, 4096, -1, LEAST, MOST}) due("surplus " + s, x.surplus(s), BAD);
    }

    private static void oddAndBarriers() {
        MissedPoints x = net(5, "0-1,0-2,0-3,3-4");
        due("lack", x.count(3), 1);
        due("odd 0", x.odd(0), 1);
        due("odd 1", x.odd(1), 2);
        due("odd 8", x.odd(8), 2);
        due("odd 9", x.odd(9), 3);
        due("odd all", x.odd(31), 0);
        due("barrier", x.barrier(0), 1);
        due("barrier", x.barrier(1), 1);
        due("barrier", x.barrier(9), 1);
        due("barrier", x.barrier(2), 0);
        due("barrier", x.barrier(31), 0);
        due("barriers", x.barriers(0), 5);
        due("greatest barrier", x.barriers(1), 9);
        due("in each", x.barriers(2), 0);
        MissedPoints star = net(4, "1-0,1-2,1-3");
        due("star barriers", star.barriers(0), 1);
        due("star barrier", star.barriers(1), 2);
        due("star in each", star.barriers(2), 2);
        due("line added", star.line(0, 2, 1), 0);
        due("barriers are counted anew", star.barriers(2), 0);
        for (int s : new int[] {32, -1, LEAST, MOST}) {
            due("odd " + s, x.odd(s), BAD);
            due("barrier " + s, x.barrier(s), BAD);
        }
        for (int w : new int[] {-1, 3, LEAST, MOST}) due("barriers " + w, x.barriers(w), BAD);
        // Of several with most POINTS the least number: either end of two LINES.
        due("least of several", net(4, "0-1,2-3").barriers(1), 5);
    }

    private static void criticalAndEars() {
        MissedPoints x = net(9, "(0 1 2),(2 3 4),(0 5 6 7 8)");
        due("critical", x.critical(7), 1);
        due("critical", x.critical(31), 1);
        due("critical", x.critical(511), 1);
        due("one point", x.critical(256), 1);
        due("none", x.critical(0), 0);
        due("even", x.critical(15), 0);
        due("two pieces", x.critical(7 | 8 | 16 | 32), 0);
        due("not joined", x.critical(1 | 2 | 8), 0);
        due("ears", x.ear(511, -1), 3);
        due("ear 0", x.ear(511, 0), 6);
        due("ear 1", x.ear(511, 1), 24);
        due("ear 2", x.ear(511, 2), 32 | 64 | 128 | 256);
        due("ears", x.ear(28, -1), 1);
        due("ear 0", x.ear(28, 0), 24);
        due("one point has none", x.ear(4, -1), 0);
        due("one point has none", x.ear(4, 0), NONE);
        for (int i : new int[] {-2, 3, LEAST, MOST}) due("ear " + i, x.ear(511, i), NONE);
        for (int i : new int[] {-2, -1, 0}) due("not critical", x.ear(3, i), STATE);
        due("not critical", x.ear(0, -1), STATE);
        for (int s : new int[] {512, -1, LEAST, MOST}) {
            due("critical " + s, x.critical(s), BAD);
            due("ear " + s, x.ear(s, -1), BAD);
        }
        MissedPoints mesh = net(5, "[0 1 2 3 4]");
        due("mesh ears", mesh.ear(31, -1), 2);
        due("least of several ears", mesh.ear(31, 0), 6);
        due("next ear", mesh.ear(31, 1), 24);
    }

    private static void verdicts() {
        MissedPoints x = net(6, "0-1-2-3,4-5,3-4");
        due("forced", x.verdict(0, 1), 2);
        due("forced", x.verdict(3, 2), 2);
        due("in none", x.verdict(1, 2), 0);
        due("no line", x.verdict(0, 5), NONE);
        due("verdicts", x.verdicts(0), 2);
        due("verdicts", x.verdicts(1), 0);
        due("verdicts", x.verdicts(2), 3);
        MissedPoints row = net(3, "0-1-2");
        due("allowed", row.verdict(1, 0), 1);
        due("allowed", row.verdict(1, 2), 1);
        due("verdicts", row.verdicts(1), 2);
        due("one point", x.verdict(2, 2), BAD);
        for (int p : new int[] {-1, 6, LEAST, MOST}) {
            due("verdict", x.verdict(p, 0), BAD);
            due("verdict", x.verdict(0, p), BAD);
        }
        for (int v : new int[] {-1, 3, LEAST, MOST}) due("verdicts " + v, x.verdicts(v), BAD);
    }

    private static void oneMoreOneLess() {
        MissedPoints x = net(5, "0-1-2,3-1");
        due("lack", x.count(3), 3);
        due("without a loose one", x.without(0), 2);
        due("without a hub", x.without(1), 4);
        due("mends", x.mends(0), 2);
        due("how many mends", x.mends(1), 6);
        due("breaks", x.breaks(0), NONE);
        due("how many breaks", x.breaks(1), 0);
        MissedPoints y = net(12, "0-1,10-11,8-9-7");
        due("breaks", y.breaks(0), 1);
        due("how many breaks", y.breaks(1), 2);
        due("mends", y.mends(0), 2 * 12 + 3);
        due("no lines, no points changed", y.count(1), 4);
        MissedPoints z = net(12, "10-11");
        due("breaks are told by twelves", z.breaks(0), 12 * 10 + 11);
        for (int p : new int[] {-1, 5, LEAST, MOST}) due("without " + p, x.without(p), BAD);
        for (int w : new int[] {-1, 2, LEAST, MOST}) {
            due("mends " + w, x.mends(w), BAD);
            due("breaks " + w, x.breaks(w), BAD);
        }
    }

    private static void toldBySheets() {
        MissedPoints x = net(4, "0-1-2-3");
        due("missing", x.isTold(0), NOTHING);
        due("missing", x.misses(0), NOTHING);
        tell(x, 0, 0, -1, 2, 1, -1);
        due("told", x.isTold(0), 1);
        due("misses", x.misses(0), 9);
        tell(x, 1, 1, 1, 0, 3, 2);
        due("told", x.isTold(1), 1);
        due("misses", x.misses(1), 0);
        int[][] untold = {{-1, 2, 1}, {-1, 2, 1, -1, -1}, {2, -1, 0, -1}, {1, -1, -1, -1}, {0, -1, -1, -1},
            {-1, -1, -1, 4}, {-2, -1, -1, -1}, {-1, -1, -1, 65538}, {1, 2, 1, -1}};
        for (int[] mates : untold) {
            tell(x, 2, 1, mates);
            due("untold", x.isTold(2), 0);
            due("untold", x.misses(2), STATE);
        }
        // The lowest bits of 65535 are the short -1.
        tell(x, 2, 0, 65535, -1, -1, 131071);
        due("shorts", x.isTold(2), 1);
        tell(x, 2, 1, 65535, -1, -1, -1);
        due("ints", x.isTold(2), 0);
        due("line out", x.line(1, 2, 0), 1);
        due("no longer told", x.isTold(0), 0);
        for (int s : new int[] {-1, 4, LEAST, MOST}) {
            due("isTold " + s, x.isTold(s), BAD);
            due("misses " + s, x.misses(s), BAD);
        }
    }

    private static void waysOfSheets() {
        MissedPoints x = net(7, "0-1-2-3,4-1,3-5,5-6");
        tell(x, 0, 0, -1, 2, 1, 5, -1, 3, -1);
        int[] way = {0, 1, 2, 3, 5, 6};
        due("way", x.way(0, -1), 6);
        for (int i = 0; i < 6; i++) due("way " + i, x.way(0, i), way[i]);
        for (int i : new int[] {-2, 6, LEAST, MOST}) due("way " + i, x.way(0, i), NONE);
        due("grow", x.grow(0), 3);
        int[] grown = {1, 0, 3, 2, -1, 6, 5};
        for (int p = 0; p < 7; p++) due("grown " + p, x.item(0, p), grown[p]);
        due("its sort stays", x.shelf(0, 4, 0), 1);
        due("its sort stays", x.taken(0, 10), 7);
        due("no way", x.way(0, -1), NONE);
        due("no way", x.way(0, 0), NONE);
        due("no way", x.grow(0), NONE);
        // The shortest one counts, not the first row; of the shortest the first row.
        MissedPoints y = net(8, "0-1-2-3,4-5,6-7,4-7");
        tell(y, 1, 1, -1, 2, 1, -1, -1, -1, -1, -1);
        due("shortest", y.way(1, -1), 2);
        due("first", y.way(1, 0), 4);
        due("first", y.way(1, 1), 5);
        due("grow", y.grow(1), 2);
        due("grow", y.grow(1), 3);
        due("then the long one", y.way(1, -1), 4);
        // Through an odd ring, where a plain search by layers goes astray.
        MissedPoints ring = net(6, "0-1-2-3-4-1,3-5");
        tell(ring, 0, 1, -1, 2, 1, 4, 3, -1);
        int[] round = {0, 1, 2, 4, 3, 5};
        due("ring has no such line", ring.line(2, 4, 1), 0);
        due("ring", ring.way(0, -1), 6);
        for (int i = 0; i < 6; i++) due("ring " + i, ring.way(0, i), round[i]);
        due("missing", x.way(3, 0), NOTHING);
        due("missing", x.grow(3), NOTHING);
        tell(x, 3, 0, 0);
        due("untold", x.way(3, -1), STATE);
        due("untold", x.grow(3), STATE);
        for (int s : new int[] {-1, 4, LEAST, MOST}) {
            due("way of " + s, x.way(s, 0), BAD);
            due("grow " + s, x.grow(s), BAD);
        }
    }

    private static void chains() {
        MissedPoints x = net(8, "(0 1 2 3),4-5-6-7");
        tell(x, 0, 0, 1, 0, 3, 2, 5, 4, 7, 6);
        tell(x, 1, 1, 3, 2, 1, 0, -1, 6, 5, -1);
        due("how many", x.chains(0, 1, 0), 2);
        due("most lines", x.chains(0, 1, 1), 4);
        due("rings", x.chains(1, 0, 2), 1);
        due("with itself", x.chains(0, 0, 0), 0);
        due("with itself", x.chains(0, 0, 1), 0);
        due("with itself", x.chains(0, 0, 2), 0);
        tell(x, 2, 0, -1, -1, -1, -1, -1, -1, -1, -1);
        due("with none", x.chains(0, 2, 0), 4);
        due("with none", x.chains(0, 2, 1), 1);
        due("missing", x.chains(0, 3, 0), NOTHING);
        due("missing", x.chains(3, 0, 0), NOTHING);
        tell(x, 2, 0, 9);
        due("missing ahead of untold", x.chains(2, 3, 0), NOTHING);
        due("untold", x.chains(2, 0, 0), STATE);
        due("untold", x.chains(0, 2, 0), STATE);
        for (int v : new int[] {-1, 4, LEAST, MOST}) {
            due("chains", x.chains(v, 3, 0), BAD);
            due("chains", x.chains(3, v, 0), BAD);
        }
        for (int w : new int[] {-1, 3, LEAST, MOST}) due("chains what", x.chains(3, 3, w), BAD);
    }

    private static void paint() {
        MissedPoints x = net(5, "(0 1 2 3 4)");
        due("paint", x.paint(2, 0), 5);
        int[] mates = {1, 0, 3, 2, -1};
        for (int p = 0; p < 5; p++) due("painted " + p, x.item(2, p), mates[p]);
        due("end", x.item(2, 5), OUTSIDE);
        due("told", x.isTold(2), 1);
        due("shorts", x.write(2, 0, 65537), 1);
        due("shorts", x.item(2, 0), 1);
        due("paint ints", x.paint(2, 1), 5);
        due("ints", x.write(2, 0, 65537), 1);
        due("ints", x.item(2, 0), 65537);
        for (int v : new int[] {-1, 4, LEAST, MOST}) due("paint", x.paint(v, 0), BAD);
        for (int v : new int[] {-1, 2, LEAST, MOST}) due("paint", x.paint(0, v), BAD);
        due("still missing", x.item(0, 0), NOTHING);
    }

    private static void tape() {
        MissedPoints x = net(3, "");
        for (int n : new int[] {0, -1, 5, LEAST, MOST}) due("feed " + n, x.feed(48, n), BAD);
        // "0-1" are the three lowest bytes, the highest of these first.
        due("feed", x.feed(0x7F302D31, 3), 3);
        due("text", x.text(), 1);
        due("next", x.next(0), 2);
        for (int i = 1; i <= 29; i++) due("feed", x.feed(0x20202020, 4), 4 * i);
        due("feed", x.feed(0x2020, 2), 118);
        due("no room", x.feed(0x202020, 3), FULL);
        due("bad ahead of full", x.feed(0x202020, 5), BAD);
        due("count", x.count(5), 118);
        due("last", x.feed(0x2031, 2), 120);
        due("no room", x.feed(32, 1), FULL);
        due("text", x.text(), 0);
        due("count", x.count(5), 0);
        due("feed", x.feed(LEAST, 4), 4);
        due("wipe", x.wipe(), 4);
        due("wipe", x.wipe(), 0);
        due("count", x.count(5), 0);
    }

    private static void textsThatAreRight() {
        MissedPoints x = net(12, "");
        due("one point", read(x, "11"), 0);
        due("row", read(x, "0-1-2"), 2);
        due("there and back", read(x, "2-3-2-1"), 1);
        due("ring", read(x, "(3 4 5)"), 3);
        due("ring of four", read(x, "(0 1 2 5)"), 2);
        due("mesh", read(x, "[6 7]"), 1);
        due("mesh of four", read(x, "[6 7 8 9]"), 5);
        due("blanks", read(x, "  ( 0   10  11 )  , 0 - 3 "), 4);
        due("zeros ahead", read(x, "007-0000000004"), 1);
        due("said twice", read(x, "4-8,8-4"), 1);
        due("lines", x.count(1), 20);
        due("next 0", x.next(0), 2 | 8 | 32 | 1024 | 2048);
        due("next 4", x.next(4), 8 | 32 | 128 | 256);
        // A digit more would be above 99, so it begins another NUMBER: 11 and 0.
        MissedPoints y = net(12, "");
        due("no blank needed", read(y, "[110 5]"), 3);
        due("next 11", y.next(11), 1 | 32);
    }

    private static void textsWithFault() {
        MissedPoints x = net(4, "");
        String[] texts = {"", " ", "4", "0-", "0-0", "0--1", "0 1", "0-1,", ",0", "0,,1", "(0 1)", "(0 1 2", "(0 1 0)",
            "(0 1 2]", "(0,1,2)", "()", "[0]", "[0 1", "[0 1)", "[0 0]", "[0 1 4]", "0-1 x", "x", "0-1)", "-0", "0-4",
            "0-1-1", "100", "0 -  99", "0-1,(0 1 2),[2", "0-1;2-3", "[0-1]", "0-(1 2 3)", "((0 1 2))", "  ,", "]"};
        int[] faults = {0, 1, 0, 2, 2, 2, 2, 4, 0, 2, 4, 6, 5,
            6, 2, 1, 2, 4, 4, 3, 5, 4, 0, 3, 0, 2,
            4, 0, 5, 14, 3, 2, 2, 1, 2, 0};
        for (int i = 0; i < texts.length; i++) {
            due("text '" + texts[i] + "'", read(x, texts[i]), -100 - faults[i]);
            due("nothing comes of it", x.count(1), 0);
            due("the tape is empty", x.count(5), 0);
        }
        for (int b : new int[] {0, 9, 10, 31, 33, 58, 47, 127, 128, 160, 255}) {
            due("feed", x.feed(b, 1), 1);
            due("byte " + b, x.text(), -100);
        }
    }

    private static void draws() {
        MissedPoints x = new MissedPoints();
        due("seed", x.seed(5), 1);
        due("seed", x.seed(LEAST), 5);
        due("seed", x.seed(1), LEAST);
        int z = 1;
        int lines = 0;
        for (int i = 0; i < 6; i++) {
            z = z * 1103515245 + 12345;
            if ((z >>> 16) % 10 < 5) lines++;
        }
        due("deal", x.deal(4, 5), lines);
        due("z", x.count(6), z);
        due("points", x.count(0), 4);
        due("lines", x.count(1), lines);
        due("all", x.deal(6, 10), 15);
        for (int i = 0; i < 15; i++) z = z * 1103515245 + 12345;
        due("z goes on", x.count(6), z);
        due("none", x.deal(3, 0), 0);
        due("old lines are gone", x.next(0), 0);
        due("no points", x.deal(0, 10), 0);
        due("no points", x.count(0), 0);
        for (int n : new int[] {-1, 13, LEAST, MOST}) due("deal " + n, x.deal(n, 3), BAD);
        for (int o : new int[] {-1, 11, LEAST, MOST}) due("odds " + o, x.deal(3, o), BAD);
        due("deal", x.deal(2, 10), 1);
        z = x.count(6);
        due("times", x.times(20, 5, 10, 1), 20);
        due("times", x.times(20, 5, 0, 5), 20);
        due("times", x.times(7, 12, 0, 12), 7);
        due("times", x.times(1, 0, 0, 0), 1);
        due("times", x.times(3, 4, 10, 1), 0);
        due("in thought", x.count(6), z);
        due("in thought", x.count(0), 2);
        due("in thought", x.count(1), 1);
        int least = 0;
        for (int i = 0; i < 9; i++) {
            due("one behind another", x.deal(6, 2) < 0 ? 1 : 0, 0);
            if (x.count(3) == 2) least++;
        }
        due("back to", x.seed(z) == z ? 1 : 0, 0);
        due("times", x.times(9, 6, 2, 2), least);
        for (int v : new int[] {-1, 21, LEAST, MOST}) {
            due("times n", x.times(v, 1, 1, 1), BAD);
            due("times points", x.times(1, v, 1, 1), BAD);
            due("times odds", x.times(1, 1, v, 1), BAD);
            due("times k", x.times(1, 1, 1, v), BAD);
        }
        due("times n", x.times(0, 1, 1, 1), BAD);
        due("times points", x.times(1, 13, 1, 1), BAD);
        due("times odds", x.times(1, 1, 11, 1), BAD);
        due("times k", x.times(1, 1, 1, 13), BAD);
    }

    private static void shelves() {
        MissedPoints x = net(7, "(0 5 6),5-1-2,3-4,1-3");
        // 2 and the ring of 0, 5, 6 are BLOCKS, 1 is their HUB, 3 and 4 are a CALM one.
        due("marks", x.mark(1), 1);
        due("a hub", x.shelf(0, 0, 1), 1);
        due("key", x.taken(0, 3), 2);
        due("key is a spot", x.taken(0, 1), 2);
        due("key is a thing", x.taken(0, 0), 2);
        due("key is no area", x.taken(0, 2), OTHER);
        due("key is no knot", x.taken(0, 4), OTHER);
        due("key is no row", x.taken(0, 10), OTHER);
        due("another", x.shelf(1, 0, 2), 1);
        due("spot", x.taken(1, 1), 4);
        due("spot is no key", x.taken(1, 3), OTHER);
        due("knot", x.shelf(2, 1, 0), 1);
        due("knot", x.taken(2, 4), 97);
        due("knot is an area", x.taken(2, 2), 97);
        due("knot is no pool", x.taken(2, 5), OTHER);
        due("knot is no spot", x.taken(2, 1), OTHER);
        due("pool", x.shelf(3, 2, 0), 1);
        due("pool", x.taken(3, 5), 24);
        due("pool is an area", x.taken(3, 2), 24);
        due("pool is no knot", x.taken(3, 4), OTHER);
        due("the net goes", x.deal(2, 0), 0);
        due("as it was", x.taken(2, 4), 97);
        due("as it was marked", x.taken(0, 3), 2);
        due("area", x.shelf(2, 3, 3), 1);
        due("area", x.taken(2, 2), 3);
        due("area is no pool", x.taken(2, 5), OTHER);
        due("empty area", x.shelf(2, 3, 0), 1);
        due("empty area", x.taken(2, 0), 0);
        due("no such set", x.shelf(2, 3, 4), BAD);
        due("no such set", x.shelf(2, 3, -1), BAD);
        due("no such point", x.shelf(2, 0, 2), BAD);
        due("no such point", x.shelf(2, 0, -1), BAD);
        due("no such block", x.shelf(2, 1, 2), BAD);
        due("no such block", x.shelf(2, 1, -1), BAD);
        due("no such calm one", x.shelf(2, 2, 0), BAD);
        due("no such sheet", x.shelf(2, 4, 4), BAD);
        due("no such sheet", x.shelf(2, 4, -1), BAD);
        due("missing sheet", x.shelf(2, 4, 0), NOTHING);
        due("still held", x.taken(2, 2), 0);
        due("sheet", x.sheet(0, 0, 7), 1);
        due("row", x.shelf(2, 4, 0), 1);
        due("the row that it was", x.sheet(0, 1, 9), 1);
        due("the row that it was", x.taken(2, 10), 7);
        due("of shorts", x.taken(2, 11), OTHER);
        due("no thing", x.taken(2, 0), OTHER);
        due("nothing", x.shelf(2, 5, LEAST), 1);
        due("nothing", x.taken(2, 0), NOTHING);
        for (int v : new int[] {-1, 4, LEAST, MOST}) {
            due("shelf", x.shelf(v, 5, 0), BAD);
            due("taken", x.taken(v, 0), BAD);
        }
        for (int v : new int[] {-1, 6, LEAST, MOST}) due("shelf what", x.shelf(0, v, 0), BAD);
        for (int v : new int[] {-1, 6, 9, 12, LEAST, MOST}) due("taken as", x.taken(2, v), BAD);
    }

    private static void held() {
        MissedPoints x = net(4, "0-1,0-2,0-3");
        due("none", x.held(0, 0), 0);
        due("none", x.held(0, 1), 0);
        due("none", x.held(0, 2), NONE);
        due("key", x.shelf(0, 0, 0), 1);
        due("spot", x.shelf(1, 0, 3), 1);
        due("area", x.shelf(2, 3, 7), 1);
        due("knot", x.shelf(3, 1, 0), 1);
        int[][] due = {{4, 15, 2}, {2, 9, 0}, {2, 7, 2}, {1, 1, 0}, {1, 2, 3}, {0, 0, NONE}};
        for (int kind = 0; kind < 6; kind++) {
            for (int what = 0; what < 3; what++) due("held " + kind + " " + what, x.held(kind, what), due[kind][what]);
        }
        due("sheet", x.sheet(0, 0, 3), 1);
        due("rows are no things", x.shelf(2, 4, 0), 1);
        due("rows are no things", x.held(0, 0), 3);
        due("an empty set has most", x.shelf(3, 3, 0), 1);
        due("an empty set has most", x.held(2, 2), 3);
        for (int v : new int[] {-1, 6, 10, LEAST, MOST}) due("held kind", x.held(v, 0), BAD);
        for (int v : new int[] {-1, 3, LEAST, MOST}) due("held what", x.held(0, v), BAD);
    }

    private static void sheets() {
        MissedPoints x = new MissedPoints();
        due("sheet", x.sheet(0, 0, 40), 1);
        due("zeros", x.item(0, 39), 0);
        due("outside", x.item(0, 40), OUTSIDE);
        due("write", x.write(0, 39, 0x12348765), 1);
        due("short", x.item(0, 39), (short) 0x8765);
        due("sheet", x.sheet(1, 1, 2), 1);
        for (int v : new int[] {-14, -1, 0, LEAST, MOST}) {
            due("write", x.write(1, 1, v), 1);
            due("int", x.item(1, 1), v);
        }
        due("all 0 anew", x.sheet(1, 1, 2), 1);
        due("all 0 anew", x.item(1, 1), 0);
        due("none", x.sheet(1, 1, 0), 1);
        due("none", x.item(1, 0), OUTSIDE);
        due("above", x.sheet(0, 1, 41), BAD);
        due("above", x.sheet(0, 1, MOST), BAD);
        due("below", x.sheet(0, 0, -1), BELOW);
        due("below", x.sheet(0, 0, LEAST), BELOW);
        due("bad ahead of below", x.sheet(0, 2, -1), BAD);
        due("bad ahead of below", x.sheet(4, 0, -1), BAD);
        due("still there", x.item(0, 39), (short) 0x8765);
        due("missing", x.sheet(0, -1, LEAST), 1);
        due("missing", x.item(0, 0), NOTHING);
        due("missing ahead of outside", x.write(0, -1, 0), NOTHING);
        due("missing already", x.sheet(3, -1, 99), 1);
        for (int v : new int[] {-1, 4, LEAST, MOST}) {
            due("sheet", x.sheet(v, 0, 1), BAD);
            due("sheet", x.sheet(v, -1, 1), BAD);
            due("write", x.write(v, 0, 1), BAD);
            due("item", x.item(v, 0), BAD);
        }
        for (int v : new int[] {-2, 2, LEAST, MOST}) due("sort", x.sheet(0, v, 1), BAD);
        for (int v : new int[] {-1, 0, LEAST, MOST}) {
            due("write", x.write(1, v, 1), OUTSIDE);
            due("item", x.item(1, v), OUTSIDE);
        }
    }

    private static void copies() {
        MissedPoints x = new MissedPoints();
        tell(x, 0, 0, 1, 2, 3, 4, 5);
        tell(x, 1, 0, 9, 9, 9);
        due("copy", x.copy(0, 1, 1, 0, 3), 3);
        int[] copied = {2, 3, 4};
        for (int i = 0; i < 3; i++) due("copied", x.item(1, i), copied[i]);
        due("on itself, forwards", x.copy(0, 0, 0, 1, 4), 4);
        int[] forwards = {1, 1, 2, 3, 4};
        for (int i = 0; i < 5; i++) due("forwards", x.item(0, i), forwards[i]);
        due("on itself, backwards", x.copy(0, 1, 0, 0, 4), 4);
        int[] backwards = {1, 2, 3, 4, 4};
        for (int i = 0; i < 5; i++) due("backwards", x.item(0, i), backwards[i]);
        due("no numbers at the end", x.copy(0, 5, 1, 3, 0), 0);
        int[][] outside = {{0, 0, -1}, {-1, 0, 1}, {0, -1, 1}, {3, 0, 3}, {0, 1, 3}, {6, 0, 0}, {0, 4, 0},
            {MOST, 0, 1}, {0, MOST, 1}, {1, 1, MOST}, {MOST, MOST, MOST}, {LEAST, 0, 0}, {0, 0, LEAST}};
        for (int[] o : outside) due("outside", x.copy(0, o[0], 1, o[1], o[2]), OUTSIDE);
        due("sheet", x.sheet(2, 1, 5), 1);
        due("other sort", x.copy(0, 0, 2, 0, 1), OTHER);
        due("other sort ahead of outside", x.copy(2, 9, 0, 9, -1), OTHER);
        due("missing ahead of all", x.copy(0, 9, 3, 9, -1), NOTHING);
        due("missing ahead of all", x.copy(3, 9, 2, 9, -1), NOTHING);
        for (int v : new int[] {-1, 4, LEAST, MOST}) {
            due("copy", x.copy(v, 0, 3, 0, 1), BAD);
            due("copy", x.copy(3, 0, v, 0, 1), BAD);
        }
    }

    private static void image() {
        MissedPoints x = net(3, "0-1");
        due("no image", x.back(), STATE);
        due("seed", x.seed(17), 1);
        due("image", x.image(), 3);
        due("deal", x.deal(5, 10), 10);
        due("sheet", x.sheet(0, 0, 2), 1);
        due("feed", x.feed(0, 2), 2);
        due("shelf", x.shelf(0, 3, 16), 1);
        due("back", x.back(), 3);
        due("lines", x.count(1), 1);
        due("next", x.next(1), 1);
        due("z", x.count(6), 17);
        due("lack", x.count(3), 1);
        due("the tape stays", x.count(5), 2);
        due("the sheet stays", x.item(0, 1), 0);
        due("the shelf stays", x.taken(0, 2), 16);
        due("line", x.line(0, 1, 0), 1);
        due("it stays", x.back(), 3);
        due("it stays", x.next(1), 1);
        due("points", x.points(2), 5);
        due("next of a new one", x.next(4), 0);
        due("image anew", x.image(), 5);
        due("deal", x.deal(0, 0), 0);
        due("back", x.back(), 5);
        due("count", x.count(0), 5);
    }

    /** Twelve POINTS, where every bound inside is reached. */
    private static void fullNets() {
        MissedPoints bare = net(12, "");
        due("bare pieces", bare.count(4), 12);
        due("bare lack", bare.count(3), 12);
        due("bare odd", bare.odd(0), 12);
        due("bare blocks", bare.pieces(0), 12);
        due("last block", bare.piece(0, 11, 0), 2048);
        due("no more blocks", bare.piece(0, 12, 0), NONE);
        due("mends", bare.mends(1), 66);
        due("last block shelved", bare.shelf(3, 1, 11), 1);
        due("last block taken", bare.taken(3, 4), 2048);
        MissedPoints star = net(12, "");
        for (int p = 1; p < 12; p++) due("star", star.line(0, p, 1), 0);
        due("star blocks", star.pieces(0), 11);
        due("star surplus", star.surplus(1), 10);
        due("star barriers", star.barriers(0), 1);
        MissedPoints row = net(12, "0-1-2-3-4-5-6-7-8-9-10-11");
        due("row pieces", row.count(4), 1);
        due("row lack", row.count(3), 0);
        due("last mate", row.mate(11), 10);
        due("breaks", row.breaks(1), 6);
        due("row whole", row.odd(0), 0);
        due("row painted", row.paint(0, 0), 12);
        due("row told", row.isTold(0), 1);
        MissedPoints mesh = net(11, "[0 1 2 3 4 5 6 7 8 9 10]");
        due("most ears", mesh.ear(2047, -1), 5);
        for (int i = 0; i < 5; i++) due("ear " + i, mesh.ear(2047, i), 6 << 2 * i);
        due("no more ears", mesh.ear(2047, 5), NONE);
        due("greatest pairings", mesh.ways(5), 10395);
        due("alone", mesh.alone(10, 1), 11);
        due("barriers", mesh.barriers(0), 1);
        due("one point more", mesh.points(1), 12);
        due("barriers are counted anew", mesh.barriers(0), 1);
        MissedPoints few = net(2, "0-1");
        due("barriers", few.barriers(0), 3);
        due("one point more", few.points(1), 3);
        due("barriers are counted anew", few.barriers(1), 1);
        due("barriers are counted anew", few.odd(0), 1);
        due("two points more", few.points(2), 5);
        due("marks are told anew", few.marked(0), 4 | 8 | 16);
    }

    private static void longWays() {
        MissedPoints x = net(12, "0-1-2-3-4-5-6-7-8-9-10-11");
        tell(x, 0, 1, -1, 2, 1, 4, 3, 6, 5, 8, 7, 10, 9, -1);
        due("longest way", x.way(0, -1), 12);
        for (int i = 0; i < 12; i++) due("longest way " + i, x.way(0, i), i);
        due("no more", x.way(0, 12), NONE);
        due("grow", x.grow(0), 6);
        for (int p = 0; p < 12; p++) due("grown " + p, x.item(0, p), p ^ 1);
        // 0 1 2 3 4 2 1 11 would be shorter, but has POINTS twice.
        MissedPoints y = net(12, "0-1,1-2,2-3,3-4,4-2,1-11,0-5,5-6,6-7,7-8,8-9,9-10,10-2");
        tell(y, 0, 0, -1, 2, 1, 4, 3, 6, 5, 8, 7, 10, 9, -1);
        int[] way = {0, 5, 6, 7, 8, 9, 10, 2, 1, 11};
        due("unlike points", y.way(0, -1), 10);
        for (int i = 0; i < 10; i++) due("unlike points " + i, y.way(0, i), way[i]);
        due("grow", y.grow(0), 6);
        due("told", y.isTold(0), 1);
        due("chains", y.paint(1, 0), 12);
        due("chains", y.chains(0, 1, 0), 0);
    }

    private static void fullTape() {
        MissedPoints x = net(2, "");
        for (int i = 1; i <= 30; i++) due("blanks", x.feed(0x20202020, 4), 4 * i);
        due("blanks", x.text(), -220);
        for (int i = 1; i <= 30; i++) due("zeros", x.feed(0x30303030, 4), 4 * i);
        due("zeros", x.text(), 0);
        for (int i = 1; i <= 30; i++) due("rows", x.feed(0x302C302C, 4), 4 * i);
        due("rows", x.text(), -220);
        for (int i = 1; i <= 30; i++) due("there and back", x.feed(0x302D312D, 4), 4 * i);
        due("there and back", x.text(), -220);
        due("nothing came of it", x.count(1), 0);
        for (int i = 1; i <= 29; i++) due("there and back", x.feed(0x302D312D, 4), 4 * i);
        due("there and back", x.feed(0x302D31, 3), 119);
        due("there and back", x.text(), 1);
    }
}
