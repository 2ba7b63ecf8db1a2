/** Promises 1 to 24: a test for each boundary case that their sentences, or the terms, name. */
public final class NetEdgesTest extends Bench {
    private static final String TWELVE = "[0 1 2 3 4 5 6 7 8 9 10 11]";
    private static final String ELEVEN = "[0 1 2 3 4 5 6 7 8 9 10]";
    private static final String SIX_LINES = "0-1,2-3,4-5,6-7,8-9,10-11";

    public static void main(String[] args) {
        newObject();
        points();
        pointsWhereOthersWere();
        line();
        next();
        count();
        countAtItsBounds();
        most();
        mate();
        ways();
        alone();
        mark();
        marked();
        pieces();
        piece();
        surplus();
        odd();
        barrier();
        barriers();
        critical();
        ear();
        earsThatMustWait();
        verdict();
        verdicts();
        without();
        mends();
        breaks();
        lastCalls();
        needAll(1, 24);
        end("NetEdgesTest");
    }

    private static void newObject() {
        promise(1);
        MissedPoints x = new MissedPoints();
        row("count", x::count, 0, 0, 0, 0, 0, 0, 1);
        due("no POINT 0", x.next(0), BAD);
        for (int h = 0; h < 4; h++) {
            for (int as : new int[] {0, 1, 2, 3, 4, 5, 10, 11}) due("nothing is held", x.taken(h, as), NOTHING);
        }
        for (int kind = 0; kind < 6; kind++) {
            due("no THINGS", x.held(kind, 0), 0);
            due("POINTS of no THINGS", x.held(kind, 1), 0);
            due("none with most POINTS", x.held(kind, 2), NONE);
        }
        for (int s = 0; s < 4; s++) {
            due("SHEET is missing", x.item(s, 0), NOTHING);
            due("SHEET is missing", x.isTold(s), NOTHING);
        }
        due("no IMAGE", x.back(), STATE);
        due("THE TAPE was empty", x.wipe(), 0);
        due("no TEXT on it", x.text(), -100);
        MissedPoints other = net(3, "0-1");
        ready("another object's SHEET", other.sheet(0, 0, 1), 1);
        due("another object's POINTS are not its own", x.count(0), 0);
        due("another object's SHEETS are not its own", x.item(0, 0), NOTHING);
    }

    private static void points() {
        promise(2);
        MissedPoints x = new MissedPoints();
        each("too few", BAD, x::points, 0, -1, -12, LEAST);
        each("too many", BAD, x::points, 13, 24, MOST);
        due("refused: none came", x.count(0), 0);
        due("the fewest", x.points(1), 1);
        due("all that have room", x.points(11), 12);
        each("no room at all", FULL, x::points, 1, 2, 11, 12);
        each("BAD is named ahead of FULL", BAD, x::points, 0, -1, 13, LEAST, MOST);
        due("refused: none came", x.count(0), 12);
        due("the most at once", new MissedPoints().points(12), 12);
        MissedPoints y = net(5, "0-4");
        each("they have not all room", FULL, y::points, 8, 12);
        due("not one of them came", y.count(0), 5);
        due("just as many as have room", y.points(7), 12);
        due("those that come have no LINES", y.next(11), 0);
        due("LINES of the others stay", y.next(4), 1);
    }

    private static void pointsWhereOthersWere() {
        promise(2);
        MissedPoints x = new MissedPoints();
        ready("a net of all LINES", x.deal(12, 10), 66);
        ready("all of it goes", x.deal(0, 10), 0);
        due("room again", x.points(12), 12);
        row("no LINE of former POINTS", x::next, 0, 0, 0, 0, 0, 0, 0, 0, 0, 0, 0, 0);
        MissedPoints y = net(2, "0-1");
        ready("image", y.image(), 2);
        ready("a net of all LINES", y.deal(6, 10), 15);
        ready("back", y.back(), 2);
        due("POINTS more behind back", y.points(4), 6);
        row("no LINE of former POINTS", y::next, 2, 1, 0, 0, 0, 0);
    }

    private static void line() {
        promise(3);
        MissedPoints none = new MissedPoints();
        due("no POINTS", none.line(0, 1, 1), BAD);
        MissedPoints one = net(1, "");
        due("one and the same, the only one", one.line(0, 0, 1), BAD);
        due("one POINT has no other", one.line(0, 1, 1), BAD);
        MissedPoints x = net(12, "");
        due("there was none", x.line(11, 0, 1), 0);
        due("there was one, told the other way", x.line(0, 11, 1), 1);
        due("one at most between two", x.count(1), 1);
        for (int p : new int[] {-1, 12, 32, -32, LEAST, MOST}) {
            for (int on = 0; on <= 1; on++) {
                due("the first is no POINT", x.line(p, 0, on), BAD);
                due("the second is no POINT", x.line(0, p, on), BAD);
                due("both are no POINT", x.line(p, p, on), BAD);
            }
        }
        for (int p = 0; p < 12; p++) due("one and the same POINT", x.line(p, p, 1), BAD);
        due("one and the same POINT", x.line(11, 11, 0), BAD);
        each("on is neither, where there is a LINE", BAD, on -> x.line(0, 11, on), -1, 2, LEAST, MOST);
        each("on is neither, where there is none", BAD, on -> x.line(0, 1, on), -1, 2, LEAST, MOST);
        due("refused: as many LINES", x.count(1), 1);
        row("refused: the same LINE", x::next, 2048, 0, 0, 0, 0, 0, 0, 0, 0, 0, 0, 1);
        due("it goes", x.line(11, 0, 0), 1);
        due("it was gone", x.line(0, 11, 0), 0);
        due("it is gone for both", x.next(0) | x.next(11), 0);
    }

    private static void next() {
        promise(4);
        due("no POINTS", new MissedPoints().next(0), BAD);
        MissedPoints x = net(5, "0-4,4-2");
        row("next", x::next, 16, 0, 16, 0, 5);
        each("no POINT", BAD, x::next, -1, 5, 11, 12, 32, -32, LEAST, MOST);
        MissedPoints all = net(12, TWELVE);
        due("all others of POINT 0", all.next(0), 4094);
        due("all others of POINT 11", all.next(11), 2047);
        due("no POINT 12", all.next(12), BAD);
    }

    private static void count() {
        promise(5);
        MissedPoints x = net(7, "0-1-2,[3 4 5]");
        ready("feed", x.feed(0, 3), 3);
        ready("seed", x.seed(-77), 1);
        row("count", x::count, 7, 5, 2, 3, 3, 3, -77);
        each("what is none such", BAD, x::count, -1, 7, LEAST, MOST);
    }

    private static void countAtItsBounds() {
        promise(5);
        MissedPoints bare = net(12, "");
        row("twelve without LINES", bare::count, 12, 0, 0, 12, 12, 0, 1);
        MissedPoints all = net(12, TWELVE);
        row("twelve with all LINES", all::count, 12, 66, 6, 0, 1, 0, 1);
        MissedPoints one = net(1, "");
        row("one POINT", one::count, 1, 0, 0, 1, 1, 0, 1);
        for (int i = 1; i <= 30; i++) ready("feed", bare.feed(0, 4), 4 * i);
        due("THE TAPE is full", bare.count(5), 120);
        for (int z : new int[] {-1, -2, 0, LEAST, MOST}) {
            bare.seed(z);
            due("z, also where it looks like a refusal", bare.count(6), z);
        }
    }

    private static void most() {
        promise(6);
        MissedPoints none = new MissedPoints();
        due("no POINTS, none of them", none.most(0), 0);
        each("no POINTS", BAD, none::most, 1, -1, LEAST, MOST);
        MissedPoints x = net(6, "0-1-2-3,1-3,4-5");
        due("the empty set", x.most(0), 0);
        each("one POINT", 0, x::most, 1, 2, 4, 8, 16, 32);
        due("all POINTS", x.most(63), 3);
        due("two without a LINE", x.most(1 | 4), 0);
        due("by its own LINES alone", x.most(1 | 4 | 8), 1);
        each("one that is no POINT", BAD, x::most, 64, 65, 127, 4096, -1, -64, LEAST, MOST);
        MissedPoints all = net(12, TWELVE);
        due("all of twelve", all.most(4095), 6);
        due("eleven of twelve", all.most(2047), 5);
        each("a thirteenth", BAD, all::most, 4096, 8191);
    }

    private static void mate() {
        promise(7);
        due("no POINTS", new MissedPoints().mate(0), BAD);
        due("one POINT is MISSED", net(1, "").mate(0), NONE);
        MissedPoints x = net(4, "0-1,0-2,0-3");
        row("one that is MISSED is NONE, POINT 0 is 0", x::mate, 1, 0, NONE, NONE);
        each("no POINT", BAD, x::mate, -1, 4, 12, 32, LEAST, MOST);
        MissedPoints all = net(12, TWELVE);
        row("twelve", all::mate, 1, 0, 3, 2, 5, 4, 7, 6, 9, 8, 11, 10);
        due("no POINT 12", all.mate(12), BAD);
        // 1, 0 and MISSED, 2, 1 are both GREATEST: MISSED stands behind all numbers.
        row("MISSED is behind all numbers", net(3, "0-1-2")::mate, 1, 0, NONE);
        row("of POINT 0 first", net(4, "(0 1 2 3)")::mate, 1, 0, 3, 2);
        // 3, 2, 1, 0 would have the least MATE of POINT 1.
        row("of POINT 0 first", net(4, "(0 2 1 3)")::mate, 2, 3, 0, 1);
        row("where they are unlike first", net(6, "0-1,2-3,2-4,3-5")::mate, 1, 0, 4, 5, 2, 3);
        row("POINT 0 is MISSED if it must", net(3, "1-2")::mate, NONE, 2, 1);
        // 0-1 comes first, but would be the only LINE.
        row("only GREATEST ones count", net(4, "0-1,0-3,1-2")::mate, 3, 2, 1, 0);
    }

    private static void ways() {
        promise(8);
        row("no POINTS: the PAIRING of no LINES", new MissedPoints()::ways, 1, 0, 0, 0, 0, 0, 0);
        row("no LINES", net(12, "")::ways, 1, 0, 0, 0, 0, 0, 0);
        row("all LINES", net(12, TWELVE)::ways, 1, 66, 1485, 13860, 51975, 62370, 10395);
        row("six LINES apart", net(12, SIX_LINES)::ways, 1, 6, 15, 20, 15, 6, 1);
        MissedPoints x = net(4, "0-1-2-3");
        row("more LINES than any has", x::ways, 1, 3, 1, 0, 0, 0, 0);
        ready("a LINE more", x.line(0, 3, 1), 0);
        row("as the net is now", x::ways, 1, 4, 2);
        each("n too small", BAD, x::ways, -1, LEAST);
        each("n too large", BAD, x::ways, 7, 12, MOST);
    }

    private static void alone() {
        promise(9);
        due("no POINTS", new MissedPoints().alone(0, 0), BAD);
        MissedPoints star = net(4, "0-1,0-2,0-3");
        due("none misses it: 0", star.alone(0, 0), 0);
        due("none misses it: of 1", star.alone(0, 1), 1);
        due("two of three", star.alone(1, 0), 2);
        due("two of three", star.alone(1, 1), 3);
        each("no POINT", BAD, p -> star.alone(p, 0), -1, 4, 32, LEAST, MOST);
        each("no such part", BAD, part -> star.alone(0, part), -1, 2, LEAST, MOST);
        each("neither", BAD, v -> star.alone(v, v), -1, 4, LEAST, MOST);
        MissedPoints one = net(1, "");
        due("each misses it: 1", one.alone(0, 0), 1);
        due("each misses it: of 1", one.alone(0, 1), 1);
        // Two of the six PAIRINGS of a ring of three and a row of three miss POINT 3.
        MissedPoints two = net(6, "0-1-2,(3 4 5)");
        due("lowest terms, above", two.alone(3, 0), 1);
        due("lowest terms, below", two.alone(3, 1), 3);
        MissedPoints all = net(11, ELEVEN);
        due("945 of 10395, above", all.alone(10, 0), 1);
        due("945 of 10395, below", all.alone(10, 1), 11);
    }

    private static void mark() {
        promise(10);
        due("no POINTS", new MissedPoints().mark(0), BAD);
        due("one POINT is LOOSE", net(1, "").mark(0), 0);
        row("two with a LINE are REST", net(2, "0-1")::mark, 2, 2);
        // 1 is NEXT to 0, which is LOOSE, but is LOOSE itself.
        row("LOOSE counts ahead of HUB", net(3, "(0 1 2)")::mark, 0, 0, 0);
        MissedPoints x = net(5, "0-1-2-3,4-1");
        row("all three", x::mark, 0, 1, 2, 2, 0);
        each("no POINT", BAD, x::mark, -1, 5, 12, 32, LEAST, MOST);
        ready("a LINE more", x.line(0, 4, 1), 0);
        row("as the net is now", x::mark, 0, 0, 1, 0, 0);
    }

    private static void marked() {
        promise(11);
        row("no POINTS", new MissedPoints()::marked, 0, 0, 0);
        row("all are LOOSE", net(12, "")::marked, 4095, 0, 0);
        row("all are REST", net(12, SIX_LINES)::marked, 0, 0, 4095);
        MissedPoints x = net(5, "0-1-2-3,4-1");
        row("all three", x::marked, 1 | 16, 2, 4 | 8);
        each("no MARK", BAD, x::marked, -1, 3, LEAST, MOST);
    }

    private static void pieces() {
        promise(12);
        row("no POINTS", new MissedPoints()::pieces, 0, 0);
        row("BLOCKS of one POINT each", net(12, "")::pieces, 12, 0);
        row("CALM ones of two POINTS each", net(12, SIX_LINES)::pieces, 0, 6);
        MissedPoints x = net(5, "0-1-2-3,4-1");
        row("both", x::pieces, 2, 1);
        each("neither", BAD, x::pieces, -1, 2, LEAST, MOST);
    }

    private static void piece() {
        promise(13);
        due("no POINTS, no BLOCK", new MissedPoints().piece(0, 0, 0), NONE);
        due("no POINTS, no CALM one", new MissedPoints().piece(1, 0, 1), NONE);
        row("POINT 0 alone", i -> net(1, "").piece(0, i, 0), 1, NONE);
        MissedPoints x = net(12, "5-6,5-0,5-1,(2 3 4),5-2,6-7,8-9,10-11");
        row("BLOCKS by their least POINTS", i -> x.piece(0, i, 0), 1, 2, 4 | 8 | 16, NONE);
        row("HUBS NEXT to BLOCKS", i -> x.piece(0, i, 1), 32, 32, 32, NONE);
        row("CALM ones by their least POINTS", i -> x.piece(1, i, 0), 64 | 128, 256 | 512, 1024 | 2048, NONE);
        row("HUBS NEXT to CALM ones, or no POINTS", i -> x.piece(1, i, 1), 32, 0, 0, NONE);
        each("no such BLOCK", NONE, i -> x.piece(0, i, 0), -1, 3, 12, 32, LEAST, MOST);
        each("no such CALM one", NONE, i -> x.piece(1, i, 1), -1, 3, 12, 32, LEAST, MOST);
        each("neither BLOCKS nor CALM ones", BAD, which -> x.piece(which, 0, 0), -1, 2, LEAST, MOST);
        each("what is none such", BAD, what -> x.piece(0, 0, what), -1, 2, LEAST, MOST);
        each("BAD is named ahead of NONE", BAD, which -> x.piece(which, 99, 0), -1, 2, LEAST, MOST);
        each("BAD is named ahead of NONE", BAD, what -> x.piece(1, -1, what), -1, 2, LEAST, MOST);
        // The first BLOCK by its least POINT isn't the one of the least bits.
        MissedPoints y = net(5, "(0 3 4),1-2,1-0");
        row("a BLOCK with a low and high POINTS", i -> y.piece(0, i, 0), 1 | 8 | 16, 4, NONE);
        MissedPoints bare = net(12, "");
        due("the last of twelve", bare.piece(0, 11, 0), 2048);
        due("behind the last of twelve", bare.piece(0, 12, 0), NONE);
        due("no HUBS at all", bare.piece(0, 11, 1), 0);
    }

    private static void surplus() {
        promise(14);
        due("no POINTS", new MissedPoints().surplus(0), 0);
        due("no POINTS, no HUB", new MissedPoints().surplus(1), BAD);
        // HUBS 0 and 1 hold 2, 3, 4 and 4, 5, 6; 7 and 8 are a CALM one.
        MissedPoints x = net(9, "0-2,0-3,0-4,1-4,1-5,1-6,7-8,0-7");
        row("sets of HUBS", x::surplus, 0, 2, 2, 3);
        each("a LOOSE one", BAD, x::surplus, 4, 5, 7, 64);
        each("one of the REST", BAD, x::surplus, 128, 129, 256, 384);
        each("no POINT", BAD, x::surplus, 512, 513, 4096, -1, -4, LEAST, MOST);
        MissedPoints star = net(12, "");
        for (int p = 0; p < 11; p++) ready("star", star.line(11, p, 1), 0);
        due("eleven BLOCKS", star.surplus(2048), 10);
        MissedPoints whole = net(2, "0-1");
        due("no HUBS, none of them", whole.surplus(0), 0);
        due("no HUBS", whole.surplus(1), BAD);
    }

    private static void odd() {
        promise(15);
        due("no POINTS", new MissedPoints().odd(0), 0);
        due("no POINT 0", new MissedPoints().odd(1), BAD);
        MissedPoints x = net(6, "0-1,0-2,0-3,3-4");
        due("the empty set: PIECES of five and of one", x.odd(0), 2);
        due("an even PIECE doesn't count", x.odd(2), 1);
        due("PIECES of one", x.odd(1 | 8), 4);
        due("all POINTS: nothing is left", x.odd(63), 0);
        each("it has one that is no POINT", BAD, x::odd, 64, 65, 4096, -1, LEAST, MOST);
        due("twelve of one", net(12, "").odd(0), 12);
    }

    private static void barrier() {
        promise(16);
        due("no POINTS, none of them", new MissedPoints().barrier(0), 1);
        due("no POINT 0", new MissedPoints().barrier(1), BAD);
        MissedPoints x = net(5, "0-1,0-2,0-3,3-4");
        each("as many more as LACK is", 1, x::barrier, 0, 1, 8, 9);
        each("fewer", 0, x::barrier, 2, 3, 7, 31);
        each("it has one that is no POINT", BAD, x::barrier, 32, 33, 4096, -1, LEAST, MOST);
        MissedPoints whole = net(2, "0-1");
        row("LACK 0", whole::barrier, 1, 1, 1, 0);
        MissedPoints bare = net(12, "");
        due("LACK 12", bare.barrier(0), 1);
        due("LACK 12", bare.barrier(2048), 0);
    }

    private static void barriers() {
        promise(17);
        row("no POINTS: the empty set", new MissedPoints()::barriers, 1, 0, 0);
        row("the empty set alone", net(3, "(0 1 2)")::barriers, 1, 0, 0);
        row("one that is in each", net(4, "1-0,1-2,1-3")::barriers, 1, 2, 2);
        // Either end of each LINE or none: 3 * 3; of those with two POINTS 0 and 2 are the least number.
        row("of several with most POINTS the least number", net(4, "0-1,2-3")::barriers, 9, 5, 0);
        // A LINE has three, the row of four has eight, three of which have two POINTS.
        row("most POINTS ahead of the least number", net(6, "0-1,2-4-3-5")::barriers, 24, 1 | 4 | 8, 0);
        row("six LINES apart", net(12, SIX_LINES)::barriers, 729, 1365, 0);
        MissedPoints x = net(2, "0-1");
        each("what is none such", BAD, x::barriers, -1, 3, LEAST, MOST);
        due("before the change", x.barriers(0), 3);
        ready("a POINT more", x.points(1), 3);
        row("as the net is now", x::barriers, 3, 1, 0);
        ready("two POINTS more", x.points(2), 5);
        due("a BARRIER has POINTS of the LINE only", x.barriers(1), 1);
        ready("the LINE goes", x.line(0, 1, 0), 1);
        row("as the net is now", x::barriers, 1, 0, 0);
        ready("a net by draws", x.deal(2, 10), 1);
        row("as the net is now", x::barriers, 3, 1, 0);
    }

    private static void critical() {
        promise(18);
        due("no POINTS, none of them", new MissedPoints().critical(0), 0);
        due("no POINT 0", new MissedPoints().critical(1), BAD);
        MissedPoints x = net(6, "(0 1 2),2-3-4,4-5");
        due("the empty set has no odd number", x.critical(0), 0);
        each("one POINT: none are left, that is WHOLE", 1, x::critical, 1, 2, 4, 8, 16, 32);
        each("two POINTS", 0, x::critical, 3, 5, 24);
        due("three in a ring", x.critical(7), 1);
        due("three in a row", x.critical(4 | 8 | 16), 0);
        due("three that don't hang together", x.critical(1 | 2 | 32), 0);
        due("all, an even number", x.critical(63), 0);
        each("it has one that is no POINT", BAD, x::critical, 64, 71, 4096, -1, LEAST, MOST);
        MissedPoints all = net(12, TWELVE);
        due("eleven of twelve", all.critical(2047), 1);
        due("twelve", all.critical(4095), 0);
    }

    private static void ear() {
        promise(19);
        MissedPoints none = new MissedPoints();
        due("the empty set isn't CRITICAL", none.ear(0, -1), STATE);
        due("no POINT 0", none.ear(1, -1), BAD);
        MissedPoints x = net(9, "(0 1 2),(2 3 4),(0 5 6 7 8)");
        row("EARS from 0 on", i -> x.ear(511, i), 6, 24, 32 | 64 | 128 | 256, NONE);
        due("how many", x.ear(511, -1), 3);
        each("no such EAR", NONE, i -> x.ear(511, i), -2, 3, 4, 5, 32, LEAST, MOST);
        due("one POINT is all HAD: no EARS", x.ear(256, -1), 0);
        each("one POINT has none such", NONE, i -> x.ear(256, i), -2, 0, 1, LEAST, MOST);
        each("it isn't CRITICAL", STATE, set -> x.ear(set, 0), 0, 3, 15, 11);
        each("STATE is named ahead of NONE", STATE, i -> x.ear(3, i), -2, -1, 0, 9, LEAST, MOST);
        each("it has one that is no POINT", BAD, set -> x.ear(set, 0), 512, 519, 4096, -1, LEAST, MOST);
        each("BAD is named ahead of STATE and NONE", BAD, i -> x.ear(515, i), -2, -1, 0, 9, LEAST, MOST);
        MissedPoints mesh = net(11, ELEVEN);
        due("eleven POINTS have five at most", mesh.ear(2047, -1), 5);
        row("of several the least number", i -> mesh.ear(2047, i), 6, 24, 96, 384, 1536, NONE);
        due("a part of it: HAD is its least POINT", mesh.ear(2 | 16 | 1024, 0), 16 | 1024);
    }

    private static void earsThatMustWait() {
        promise(19);
        // 0, 1, 2 are a ring of three, but 3 and 4, which would be left, have no LINE.
        MissedPoints x = net(5, "(0 1 3 2 4),0-2,1-2");
        row("what is left must be WHOLE", i -> x.ear(31, i), 4 | 16, 2 | 8, NONE);
        MissedPoints ring = net(11, "(0 1 2 3 4 5 6 7 8 9 10)");
        due("a ring is one EAR", ring.ear(2047, -1), 1);
        due("all but the least POINT", ring.ear(2047, 0), 2046);
        // The least POINT isn't on the small ring: fewest POINTS count ahead of the least number.
        MissedPoints far = net(7, "(0 1 2 3 4),(0 5 6)");
        row("fewest POINTS ahead of the least number", i -> far.ear(127, i), 32 | 64, 30, NONE);
    }

    private static void verdict() {
        promise(20);
        due("no POINTS", new MissedPoints().verdict(0, 1), BAD);
        MissedPoints x = net(7, "0-1-2-3,4-5-6");
        due("FORCED", x.verdict(0, 1), 2);
        due("FORCED, told the other way", x.verdict(1, 0), 2);
        due("in no GREATEST one", x.verdict(1, 2), 0);
        due("ALLOWED, but not FORCED", x.verdict(4, 5), 1);
        due("ALLOWED, told the other way", x.verdict(6, 5), 1);
        due("there is no LINE", x.verdict(0, 6), NONE);
        for (int p = 0; p < 7; p++) due("one and the same POINT", x.verdict(p, p), BAD);
        for (int p : new int[] {-1, 7, 12, 32, LEAST, MOST}) {
            due("the first is no POINT", x.verdict(p, 0), BAD);
            due("the second is no POINT", x.verdict(0, p), BAD);
            due("both are no POINT", x.verdict(p, p), BAD);
        }
    }

    private static void verdicts() {
        promise(21);
        row("no POINTS", new MissedPoints()::verdicts, 0, 0, 0);
        row("no LINES", net(12, "")::verdicts, 0, 0, 0);
        row("all are FORCED", net(12, SIX_LINES)::verdicts, 0, 0, 6);
        row("all are ALLOWED", net(12, TWELVE)::verdicts, 0, 66, 0);
        MissedPoints x = net(7, "0-1-2-3,4-5-6");
        row("each sort", x::verdicts, 1, 2, 2);
        each("no verdict", BAD, x::verdicts, -1, 3, NONE, LEAST, MOST);
    }

    private static void without() {
        promise(22);
        due("no POINTS", new MissedPoints().without(0), BAD);
        due("the only one", net(1, "").without(0), 0);
        MissedPoints x = net(5, "0-1-2-3,4-1");
        row("LOOSE: one less; others: one more", x::without, 0, 2, 2, 2, 0);
        due("it is only thought away", x.count(0), 5);
        due("its LINES, too", x.count(1), 4);
        each("no POINT", BAD, x::without, -1, 5, 12, 32, LEAST, MOST);
        MissedPoints bare = net(12, "");
        due("eleven are left", bare.without(11), 11);
    }

    private static void mends() {
        promise(23);
        row("no POINTS", new MissedPoints()::mends, NONE, 0);
        row("one POINT", net(1, "")::mends, NONE, 0);
        row("LACK 0 can't be less", net(4, "0-1,2-3")::mends, NONE, 0);
        row("LACK 1 can't be less", net(3, "0-1")::mends, NONE, 0);
        row("LACK 1 of a ring can't be less", net(5, "(0 1 2 3 4)")::mends, NONE, 0);
        row("not within one BLOCK", net(6, "(0 1 2 3 4)")::mends, 5, 5);
        row("not with one that must have a MATE", net(4, "0-1-2")::mends, 3, 2);
        row("all LINES are there", net(3, "(0 1 2)")::mends, NONE, 0);
        row("the first two", net(2, "")::mends, 1, 1);
        row("the last two", net(12, "0-1,2-3,4-5,6-7,8-9")::mends, 131, 1);
        row("all twos", net(12, "")::mends, 1, 66);
        row("by the lesser, then by the greater", net(4, "1-0,1-2,1-3")::mends, 2, 3);
        MissedPoints x = net(5, "0-1-2,3-1");
        row("two without a LINE", x::mends, 2, 6);
        due("they are only thought", x.count(1), 3);
        each("what is none such", BAD, x::mends, -1, 2, LEAST, MOST);
        MissedPoints whole = net(2, "0-1");
        each("BAD where there is none", BAD, whole::mends, -1, 2, LEAST, MOST);
    }

    private static void breaks() {
        promise(24);
        row("no POINTS", new MissedPoints()::breaks, NONE, 0);
        row("no LINES", net(12, "")::breaks, NONE, 0);
        row("another LINE will do", net(3, "0-1-2")::breaks, NONE, 0);
        row("the first two", net(2, "0-1")::breaks, 1, 1);
        row("the last two", net(12, "10-11")::breaks, 131, 1);
        row("six LINES apart", net(12, SIX_LINES)::breaks, 1, 6);
        MissedPoints x = net(6, "0-1-2-3,0-4,1-5");
        row("by the lesser, then by the greater", x::breaks, 4, 3);
        due("they are only thought away", x.count(1), 5);
        each("what is none such", BAD, x::breaks, -1, 2, LEAST, MOST);
        MissedPoints bare = net(2, "");
        each("BAD where there is none", BAD, bare::breaks, -1, 2, LEAST, MOST);
    }

    /** An object serves 512 calls; here the net changes ahead of every few of them. */
    private static void lastCalls() {
        promise(5);
        MissedPoints x = new MissedPoints();
        ready("call 1", x.points(12), 12);
        for (int round = 0; round < 102; round++) {
            int was = round & 1;
            ready("line", x.line(0, 1, 1 - was), was);
            due("BARRIERS", x.barriers(0), was == 1 ? 1 : 3);
            due("PAIRINGS of one LINE", x.ways(1), 1 - was);
            due("twenty nets in thought", x.times(20, 12, 10, 0), 20);
            due("LACK", x.count(3), was == 1 ? 12 : 10);
        }
        due("call 512", x.count(1), 0);
    }
}
