/** Promises 25 to 45: a test for each boundary case that their sentences, or the terms, name. */
public final class HostEdgesTest extends Bench {
    private static final int[] NO_PLACE = {-1, 4, 32, LEAST, MOST};
    private static final String ROW_OF_TWELVE = "0-1-2-3-4-5-6-7-8-9-10-11";
    private static final String RING_OF_TWELVE = "(0 1 2 3 4 5 6 7 8 9 10 11)";
    private static final int[] NO_MATES = {-1, -1, -1, -1, -1, -1, -1, -1, -1, -1, -1, -1};
    private static final int[] SIDE_BY_SIDE = {1, 0, 3, 2, 5, 4, 7, 6, 9, 8, 11, 10};
    private static final int[] SHIFTED = {11, 2, 1, 4, 3, 6, 5, 8, 7, 10, 9, 0};

    public static void main(String[] args) {
        isTold();
        toldNoLonger();
        misses();
        way();
        waysThatThereAreNot();
        grow();
        chains();
        chainsAtTheirBounds();
        paint();
        feed();
        wipe();
        textThatIsOne();
        textNumbers();
        textFaults();
        textFaultsOfBytes();
        textThatIsFull();
        textOfTheNetThen();
        seed();
        deal();
        dealAtItsBounds();
        times();
        shelf();
        shelfOfRows();
        taken();
        held();
        heldAsTheyWere();
        sheet();
        write();
        item();
        copy();
        copyOutside();
        image();
        back();
        backToTheSameDraws();
        needAll(25, 45);
        end("HostEdgesTest");
    }

    private static void isTold() {
        promise(25);
        MissedPoints none = new MissedPoints();
        due("missing", none.isTold(0), NOTHING);
        tell(none, 0, 0);
        due("no POINTS, no numbers", none.isTold(0), 1);
        tell(none, 0, 0, -1);
        due("no POINTS, one number", none.isTold(0), 0);
        MissedPoints x = net(4, "0-1-2-3");
        due("missing", x.isTold(3), NOTHING);
        each("no SHEET", BAD, x::isTold, NO_PLACE);
        int[][] told = {{-1, -1, -1, -1}, {1, 0, -1, -1}, {-1, 2, 1, -1}, {-1, -1, 3, 2}, {1, 0, 3, 2}};
        int[][] untold = {{}, {-1, -1, -1}, {-1, -1, -1, -1, -1}, new int[40], {-2, -1, -1, -1}, {-1, -1, -1, -2},
            {4, -1, -1, -1}, {-1, -1, -1, 4}, {0, -1, -1, -1}, {-1, -1, -1, 3}, {2, -1, 0, -1}, {3, -1, -1, 0},
            {1, -1, -1, -1}, {-1, 0, -1, -1}, {1, 2, 1, -1}, {-1, 2, 3, 2}, {0, 0, 0, 0}, {LEAST, -1, -1, -1},
            {MOST, -1, -1, -1}, {32, -1, -1, -1}, {-11, -1, -1, -1}, {-12, -1, -1, -1}};
        for (int sort = 0; sort <= 1; sort++) {
            for (int[] numbers : told) {
                tell(x, 3, sort, numbers);
                due("it TELLS one: " + java.util.Arrays.toString(numbers), x.isTold(3), 1);
            }
        }
        MissedPoints y = net(4, "0-1-2-3");
        for (int[] numbers : untold) {
            tell(y, 2, 1, numbers);
            due("it TELLS none: " + java.util.Arrays.toString(numbers), y.isTold(2), 0);
        }
        tell(y, 0, 0, 65537, -65536, 65535, 131071);
        due("shorts keep the lowest bits: 1, 0, -1, -1", y.isTold(0), 1);
        tell(y, 0, 1, 65537, -65536, 65535, 131071);
        due("ints keep all bits", y.isTold(0), 0);
    }

    private static void toldNoLonger() {
        promise(25);
        MissedPoints x = net(2, "0-1");
        tell(x, 0, 0, 1, 0);
        due("told", x.isTold(0), 1);
        ready("the LINE goes", x.line(0, 1, 0), 1);
        due("the LINE is gone", x.isTold(0), 0);
        ready("the LINE comes", x.line(0, 1, 1), 0);
        due("the LINE is back", x.isTold(0), 1);
        ready("a POINT more", x.points(1), 3);
        due("one number too few", x.isTold(0), 0);
        MissedPoints all = net(12, RING_OF_TWELVE);
        tell(all, 1, 1, SHIFTED);
        due("twelve numbers", all.isTold(1), 1);
    }

    private static void misses() {
        promise(26);
        MissedPoints none = new MissedPoints();
        due("missing", none.misses(0), NOTHING);
        tell(none, 0, 1);
        due("no POINTS", none.misses(0), 0);
        MissedPoints x = net(12, ROW_OF_TWELVE);
        tell(x, 0, 0, NO_MATES);
        due("all", x.misses(0), 4095);
        tell(x, 0, 0, SIDE_BY_SIDE);
        due("none", x.misses(0), 0);
        tell(x, 0, 0, -1, 2, 1, 4, 3, 6, 5, 8, 7, 10, 9, -1);
        due("the first and the last", x.misses(0), 2049);
        tell(x, 1, 0, 1, 0);
        due("it TELLS none", x.misses(1), STATE);
        tell(x, 1, 0, SHIFTED);
        due("it TELLS none: 11 and 0 have no LINE", x.misses(1), STATE);
        due("missing", x.misses(2), NOTHING);
        each("no SHEET", BAD, x::misses, NO_PLACE);
    }

    private static void way() {
        promise(27);
        MissedPoints x = net(7, "0-1-2-3,4-1,3-5,5-6");
        tell(x, 0, 0, -1, 2, 1, 5, -1, 3, -1);
        due("how many", x.way(0, -1), 6);
        row("each POINT of it", i -> x.way(0, i), 0, 1, 2, 3, 5, 6, NONE);
        each("no such POINT", NONE, i -> x.way(0, i), -2, 6, 7, 12, 32, LEAST, MOST);
        each("no SHEET", BAD, s -> x.way(s, 0), NO_PLACE);
        each("missing", NOTHING, i -> x.way(2, i), -2, -1, 0, 99, LEAST, MOST);
        tell(x, 1, 0, -1, 2, 1, 5, -1, 3);
        each("it TELLS none, whatever i is", STATE, i -> x.way(1, i), -2, -1, 0, 99, LEAST, MOST);
        each("BAD is named ahead of NONE", BAD, s -> x.way(s, LEAST), NO_PLACE);
        MissedPoints two = net(2, "0-1");
        tell(two, 0, 1, -1, -1);
        due("the shortest: two POINTS", two.way(0, -1), 2);
        row("the shortest: two POINTS", i -> two.way(0, i), 0, 1, NONE);
        MissedPoints all = net(12, ROW_OF_TWELVE);
        tell(all, 0, 1, -1, 2, 1, 4, 3, 6, 5, 8, 7, 10, 9, -1);
        due("the longest: twelve POINTS", all.way(0, -1), 12);
        row("the longest: twelve POINTS", i -> all.way(0, i), 0, 1, 2, 3, 4, 5, 6, 7, 8, 9, 10, 11, NONE);
        // 0 1 2 5 and 0 3 4 5 are as short; so are these turned round.
        MissedPoints same = net(6, "0-1-2-5,0-3-4-5");
        tell(same, 0, 0, -1, 2, 1, 4, 3, -1);
        row("of several the row that comes first", i -> same.way(0, i), 0, 1, 2, 5, NONE);
        MissedPoints midst = net(4, "2-0-1-3");
        tell(midst, 0, 0, 1, 0, -1, -1);
        row("POINT 0 in its midst", i -> midst.way(0, i), 2, 0, 1, 3, NONE);
        MissedPoints late = net(6, "0-1-2-3,4-5");
        tell(late, 0, 0, -1, 2, 1, -1, -1, -1);
        row("fewest POINTS ahead of the first row", i -> late.way(0, i), 4, 5, NONE);
        // 0 1 2 0 would be shorter.
        MissedPoints ring = net(9, "(0 1 2),3-4-5-6-7-8");
        tell(ring, 0, 0, -1, 2, 1, -1, 5, 4, 7, 6, -1);
        row("the first and the last are unlike", i -> ring.way(0, i), 3, 4, 5, 6, 7, 8, NONE);
        // 0 1 2 3 4 2 1 11 would be shorter.
        MissedPoints twice = net(12, "0-1,1-2,2-3,3-4,4-2,1-11,0-5,5-6,6-7,7-8,8-9,9-10,10-2");
        tell(twice, 0, 0, -1, 2, 1, 4, 3, 6, 5, 8, 7, 10, 9, -1);
        row("all are unlike", i -> twice.way(0, i), 0, 5, 6, 7, 8, 9, 10, 2, 1, 11, NONE);
    }

    private static void waysThatThereAreNot() {
        promise(27);
        MissedPoints none = new MissedPoints();
        tell(none, 0, 0);
        each("no POINTS", NONE, i -> none.way(0, i), -2, -1, 0, 1);
        MissedPoints one = net(1, "");
        tell(one, 0, 0, -1);
        each("one POINT, MISSED, is first and last, but no WAY", NONE, i -> one.way(0, i), -2, -1, 0, 1);
        MissedPoints bare = net(12, "");
        tell(bare, 0, 0, NO_MATES);
        each("twelve MISSED without LINES", NONE, i -> bare.way(0, i), -1, 0, 11);
        MissedPoints all = net(12, RING_OF_TWELVE);
        tell(all, 0, 0, SIDE_BY_SIDE);
        each("none MISSED", NONE, i -> all.way(0, i), -1, 0, 11);
        // From 0 one comes round the ring to 0 only, and POINTS must be unlike.
        MissedPoints ring = net(4, "0-1-2-0,3-0");
        tell(ring, 0, 0, 3, 2, 1, 0);
        each("none MISSED", NONE, i -> ring.way(0, i), -1, 0);
        MissedPoints round = net(5, "0-1,1-2,2-3,3-4,4-2");
        tell(round, 0, 0, -1, 2, 1, 4, 3);
        each("one MISSED before an odd ring", NONE, i -> round.way(0, i), -1, 0);
    }

    private static void grow() {
        promise(28);
        MissedPoints none = new MissedPoints();
        due("missing", none.grow(0), NOTHING);
        tell(none, 0, 0);
        due("no POINTS: there is no WAY", none.grow(0), NONE);
        MissedPoints x = net(4, "0-1-2-3");
        for (int sort = 0; sort <= 1; sort++) {
            tell(x, sort, sort, -1, 2, 1, -1);
            int s = sort;
            due("LINES of WAY go out and come in", x.grow(s), 2);
            row("LINES of WAY go out and come in", i -> x.item(s, i), 1, 0, 3, 2, OUTSIDE);
            due("there is no WAY", x.grow(s), NONE);
            row("refused: nothing is changed", i -> x.item(s, i), 1, 0, 3, 2, OUTSIDE);
            ready("a SHELF", x.shelf(s, 4, s), 1);
            due("a row of its sort", x.taken(s, 10 + s), 4);
            ready("write", x.write(s, 0, 65537), 1);
            due("a row of its sort", x.item(s, 0), s == 0 ? 1 : 65537);
        }
        tell(x, 2, 0, 1, 0, 3);
        due("it TELLS none", x.grow(2), STATE);
        row("refused: nothing is changed", i -> x.item(2, i), 1, 0, 3, OUTSIDE);
        due("missing", x.grow(3), NOTHING);
        each("no SHEET", BAD, x::grow, NO_PLACE);
        MissedPoints all = net(12, ROW_OF_TWELVE);
        tell(all, 3, 0, -1, 2, 1, 4, 3, 6, 5, 8, 7, 10, 9, -1);
        due("by the longest WAY", all.grow(3), 6);
        row("by the longest WAY", p -> all.item(3, p), SIDE_BY_SIDE);
        tell(all, 3, 0, NO_MATES);
        row("from none to as many as there can be", i -> all.grow(3), 1, 2, 3, 4, 5, 6, NONE);
        row("first rows first", p -> all.item(3, p), SIDE_BY_SIDE);
        MissedPoints rest = net(5, "0-1-2-3");
        tell(rest, 0, 0, -1, 2, 1, -1, -1);
        due("others stay as they were", rest.grow(0), 2);
        row("others stay as they were", p -> rest.item(0, p), 1, 0, 3, 2, -1);
    }

    private static void chains() {
        promise(29);
        MissedPoints x = net(8, "(0 1 2 3),4-5-6-7");
        tell(x, 0, 0, 1, 0, 3, 2, 5, 4, 7, 6);
        tell(x, 1, 1, 3, 2, 1, 0, -1, 6, 5, -1);
        row("a ring of four LINES and a row of three", what -> x.chains(0, 1, what), 2, 4, 1);
        row("the other way round", what -> x.chains(1, 0, what), 2, 4, 1);
        row("with itself: no LINES", what -> x.chains(0, 0, what), 0, 0, 0);
        tell(x, 2, 1, 1, 0, 3, 2, 5, 4, 7, 6);
        row("with one that is equal", what -> x.chains(0, 2, what), 0, 0, 0);
        each("what is none such", BAD, what -> x.chains(0, 1, what), -1, 3, LEAST, MOST);
        each("the first is no SHEET", BAD, s -> x.chains(s, 1, 0), NO_PLACE);
        each("the second is no SHEET", BAD, t -> x.chains(0, t, 0), NO_PLACE);
        due("the first is missing", x.chains(3, 0, 0), NOTHING);
        due("the second is missing", x.chains(0, 3, 0), NOTHING);
        due("both are missing", x.chains(3, 3, 0), NOTHING);
        each("BAD is named ahead of -11: what", BAD, what -> x.chains(3, 0, what), -1, 3, LEAST, MOST);
        each("BAD is named ahead of -11: s", BAD, s -> x.chains(s, 3, 0), NO_PLACE);
        each("BAD is named ahead of -11: t", BAD, t -> x.chains(3, t, 0), NO_PLACE);
        tell(x, 2, 0, -1);
        due("the first TELLS none", x.chains(2, 0, 0), STATE);
        due("the second TELLS none", x.chains(0, 2, 0), STATE);
        due("both TELL none", x.chains(2, 2, 0), STATE);
        due("-11 is named ahead of STATE: t", x.chains(2, 3, 0), NOTHING);
        due("-11 is named ahead of STATE: s", x.chains(3, 2, 0), NOTHING);
        each("BAD is named ahead of STATE", BAD, what -> x.chains(2, 2, what), -1, 3, LEAST, MOST);
    }

    private static void chainsAtTheirBounds() {
        promise(29);
        MissedPoints none = new MissedPoints();
        tell(none, 0, 0);
        row("no POINTS", what -> none.chains(0, 0, what), 0, 0, 0);
        MissedPoints x = net(12, RING_OF_TWELVE);
        tell(x, 0, 0, SIDE_BY_SIDE);
        tell(x, 1, 0, SHIFTED);
        row("one ring of twelve LINES", what -> x.chains(0, 1, what), 1, 12, 1);
        tell(x, 2, 1, NO_MATES);
        row("six of one LINE", what -> x.chains(0, 2, what), 6, 1, 0);
        row("of no LINES both", what -> x.chains(2, 2, what), 0, 0, 0);
        ready("one LINE fewer", x.write(1, 11, -1), 1);
        ready("one LINE fewer", x.write(1, 0, -1), 1);
        row("one row of eleven LINES", what -> x.chains(1, 0, what), 1, 11, 0);
        MissedPoints rings = net(12, "(0 1 2 3),(4 5 6 7),(8 9 10 11)");
        tell(rings, 0, 0, SIDE_BY_SIDE);
        tell(rings, 1, 0, 3, 2, 1, 0, 7, 6, 5, 4, 11, 10, 9, 8);
        row("three rings of four LINES", what -> rings.chains(0, 1, what), 3, 4, 3);
        MissedPoints part = net(4, "0-1-2,2-3");
        tell(part, 0, 0, 1, 0, 3, 2);
        tell(part, 1, 0, 1, 0, -1, -1);
        row("a LINE of both counts for none", what -> part.chains(0, 1, what), 1, 1, 0);
    }

    private static void paint() {
        promise(30);
        MissedPoints none = new MissedPoints();
        due("no POINTS, no numbers", none.paint(0, 0), 0);
        due("a row of no numbers", none.item(0, 0), OUTSIDE);
        due("it TELLS a PAIRING", none.isTold(0), 1);
        MissedPoints x = net(5, "(0 1 2 3 4)");
        each("no SHEET", BAD, s -> x.paint(s, 0), NO_PLACE);
        each("no sort, not even that of a missing one", BAD, sort -> x.paint(1, sort), -1, 2, 10, LEAST, MOST);
        due("refused: it is still missing", x.item(1, 0), NOTHING);
        due("one that was missing", x.paint(1, 0), 5);
        row("one that was missing", i -> x.item(1, i), 1, 0, 3, 2, -1, OUTSIDE);
        ready("a long row of ints", x.sheet(3, 1, 40), 1);
        due("one that was longer, of another sort", x.paint(3, 0), 5);
        row("one that was longer", i -> x.item(3, i), 1, 0, 3, 2, -1, OUTSIDE);
        ready("write", x.write(3, 0, 65537), 1);
        due("shorts now", x.item(3, 0), 1);
        due("ints", x.paint(3, 1), 5);
        ready("write", x.write(3, 0, 65537), 1);
        due("ints now", x.item(3, 0), 65537);
        MissedPoints all = net(12, ROW_OF_TWELVE);
        due("twelve numbers", all.paint(2, 1), 12);
        row("twelve numbers", i -> all.item(2, i), SIDE_BY_SIDE);
        due("behind the twelfth", all.item(2, 12), OUTSIDE);
    }

    private static void feed() {
        promise(31);
        MissedPoints x = net(2, "");
        each("n too small", BAD, n -> x.feed(48, n), 0, -1, LEAST);
        each("n too large", BAD, n -> x.feed(48, n), 5, 8, MOST);
        due("refused: no byte came", x.count(5), 0);
        // Only "0-1" makes a LINE; bytes above the lowest three must not come.
        due("the three lowest bytes, the highest first", x.feed(0xFF302D31, 3), 3);
        due("the three lowest bytes, the highest first", x.text(), 1);
        due("the lowest byte", x.feed(0x78787831, 1), 1);
        due("the two lowest bytes", x.feed(0x78782C30, 2), 3);
        due("behind those that were there", x.text(), 0);
        due("all four, the highest of them above 127", x.feed(0xFF302D31, 4), 4);
        due("the highest is the first byte", x.text(), -100);
        due("a number below 0", x.feed(-1, 4), 4);
        due("a byte above 127 begins no TOKEN", x.text(), -100);
        for (int i = 1; i <= 29; i++) ready("feed", x.feed(0x20202020, 4), 4 * i);
        due("119 bytes", x.feed(0x202020, 3), 119);
        each("they have not all room", FULL, n -> x.feed(0x78787878, n), 2, 3, 4);
        due("refused: not one of them came", x.count(5), 119);
        due("the last one", x.feed(0x31, 1), 120);
        each("no room at all", FULL, n -> x.feed(0x78787878, n), 1, 2, 3, 4);
        each("BAD is named ahead of FULL", BAD, n -> x.feed(0, n), 0, -1, 5, LEAST, MOST);
        due("refused: as many as there were", x.count(5), 120);
        due("refused: the same ones", x.text(), 0);
        MissedPoints y = new MissedPoints();
        for (int i = 1; i <= 120; i++) due("one by one", y.feed(i, 1), i);
        due("one too many", y.feed(0, 1), FULL);
    }

    private static void wipe() {
        promise(32);
        MissedPoints x = net(2, "");
        due("nothing to wipe", x.wipe(), 0);
        for (int i = 1; i <= 30; i++) ready("feed", x.feed(0x302D3120, 4), 4 * i);
        due("all 120", x.wipe(), 120);
        due("it is empty", x.count(5), 0);
        due("it was empty", x.wipe(), 0);
        due("room again", x.feed(48, 1), 1);
        due("nothing of what was there", x.text(), 0);
        due("no LINE came of it", x.count(1), 0);
    }

    private static void textThatIsOne() {
        promise(33);
        MissedPoints x = net(12, "");
        due("one POINT, no LINE", read(x, "0"), 0);
        due("the last POINT", read(x, "11"), 0);
        due("THE TAPE is empty then", x.count(5), 0);
        due("a row of two", read(x, "0-1"), 1);
        due("the same one is not new", read(x, "0-1"), 0);
        due("told the other way it isn't new either", read(x, "1-0"), 0);
        due("told twice it is new once", read(x, "1-2,2-1,1-2"), 1);
        due("a row that comes back", read(x, "2-3-2-3-4"), 2);
        due("three in (): the fewest", read(x, "(5 6 7)"), 3);
        due("between the last one and the first", x.next(5), 64 | 128);
        due("four in (): only each and the next one", read(x, "(8 9 10 11)"), 4);
        due("not across", x.next(8), 512 | 2048);
        due("two in []: the fewest", read(x, "[0 2]"), 1);
        due("four in []: each two, two of them new", read(x, "[8 9 10 11]"), 2);
        due("three items", read(x, "0,0-3,[0 4]"), 2);
        due("twelve in (): 4-5, 7-8 and 11-0 are new", read(x, "(0 1 2 3 4 5 6 7 8 9 10 11)"), 3);
        due("twelve in [], nineteen were there", read(x, "[11 10 9 8 7 6 5 4 3 2 1 0]"), 47);
        due("all LINES are there", x.count(1), 66);
        due("a LINE that is gone is new again", x.line(3, 9, 0), 1);
        due("a LINE that is gone is new again", read(x, "9-3"), 1);
        MissedPoints y = net(4, "");
        due("blanks between all TOKENS", read(y, "( 0  1   2 ) , 2 - 3 , [ 0 3 ]"), 5);
        due("no blanks but between NUMBERS", read(y, "(0 1 3),[1 3]"), 1);
        due("blanks ahead and behind", read(y, "  0-1  "), 0);
    }

    private static void textNumbers() {
        promise(33);
        MissedPoints x = net(4, "");
        due("as long as can be: 01 is 1", read(x, "01-2"), 1);
        due("zeros ahead", read(x, "0000000000000000000000000003-0"), 1);
        due("as long as can be: 10 is no POINT", read(x, "10-2"), -100);
        due("99", read(x, "0-99"), -102);
        due("100", read(x, "0-100"), -102);
        due("far above 99", read(x, "0-99999999999999999999"), -102);
        due("4294967297 isn't 1", read(x, "0-4294967297"), -102);
        MissedPoints all = net(12, "");
        due("10 and 11", read(all, "10-11"), 1);
        due("09 is 9", read(all, "09-08"), 1);
        due("09 is 9", all.next(9), 256);
        due("12 is no POINT of twelve", read(all, "0-12"), -102);
        due("19 is one NUMBER, not 1 and 9", read(all, "0-19"), -102);
        due("99 is one NUMBER, not 9 and 9", read(all, "0-99"), -102);
        // No NUMBER is above 99, so the longest TOKEN in 100 is 10; the next one can't stand in a row.
        due("100 is 10 and 0", read(all, "9-100"), -104);
        due("100 is 10 and 0", read(all, "[100 9]"), 3);
        due("119 is 11 and 9", read(all, "[119]"), 1);
        due("120 is 12, no POINT, and 0", read(all, "[120 9]"), -101);
        MissedPoints none = new MissedPoints();
        due("no POINTS, no NUMBER can stand", read(none, "0"), -100);
    }

    private static void textFaults() {
        promise(33);
        MissedPoints x = net(4, "");
        String[] early = {"", " ", "0-", "0-1,", "(", "(0", "(0 1", "(0 1 2", "[", "[0", "[0 1", "0 , ", "0-1,(0 1 2 "};
        for (String text : early) due("it ends too early: '" + text + "'", read(x, text), -100 - text.length());
        due("no POINT ahead of -", read(x, "-0"), -100);
        due("no POINT ahead of ,", read(x, ",0"), -100);
        due("two POINTS without -", read(x, "0 1"), -102);
        due("two -", read(x, "0--1"), -102);
        due("two ,", read(x, "0,,1"), -102);
        due("unlike the one ahead of it", read(x, "0-0"), -102);
        due("unlike the one ahead of it, further on", read(x, "0-1-2-2"), -106);
        due("two in () are too few", read(x, "(0 1)"), -104);
        due("one in () is too few", read(x, "(0)"), -102);
        due("none in () are too few", read(x, "()"), -101);
        due("one in [] is too few", read(x, "[0]"), -102);
        due("none in [] are too few", read(x, "[]"), -101);
        due("unlike all ahead of it in ()", read(x, "(0 1 2 0)"), -107);
        due("unlike all ahead of it in (), where more are due", read(x, "(0 1 0)"), -105);
        due("unlike all ahead of it in []", read(x, "[0 1 0]"), -105);
        due("another NUMBER in ()", read(x, "(0 1 4)"), -105);
        due("another NUMBER in []", read(x, "[4 0]"), -101);
        due("] closes no (", read(x, "(0 1 2]"), -106);
        due(") closes no [", read(x, "[0 1)"), -104);
        due("- in ()", read(x, "(0-1-2)"), -102);
        due(", in []", read(x, "[0,1]"), -102);
        due("brackets in brackets", read(x, "([0 1] 2 3)"), -101);
        due("a bracket behind -", read(x, "0-[1 2]"), -102);
        due("- behind a bracket", read(x, "[1 2]-0"), -105);
        due("an ITEM behind an ITEM without ,", read(x, "[1 2](0 1 2)"), -105);
        due("a closing bracket alone", read(x, ")"), -100);
        due("blanks are bytes, too", read(x, "   0  -  0"), -109);
        due("only the first FAULT counts", read(x, "0-0,0-0"), -102);
        due("with a FAULT nothing comes of it, not even ITEMS ahead", x.count(1), 0);
        due("THE TAPE is empty also with a FAULT", x.count(5), 0);
    }

    private static void textFaultsOfBytes() {
        promise(33);
        MissedPoints x = net(2, "");
        for (int b = 0; b < 256; b++) {
            boolean isPoint = b == '0' || b == '1';
            boolean endsEarly = b == 32 || b == '(' || b == '[';
            ready("feed", x.feed(b, 1), 1);
            due("byte " + b + " alone", x.text(), isPoint ? 0 : endsEarly ? -101 : -100);
            if (b == 127) x = net(2, "");
        }
        MissedPoints y = net(2, "");
        for (int b : new int[] {0, 9, 10, 13, 31, 33, 43, 46, 47, 58, 91, 92, 95, 127, 128, 160, 176, 255}) {
            ready("feed", y.feed('0' << 8 | b, 2), 2);
            due("byte " + b + " behind a POINT", y.text(), -101);
        }
    }

    private static void textThatIsFull() {
        promise(33);
        MissedPoints x = net(2, "");
        for (int i = 1; i <= 29; i++) ready("feed", x.feed(0x302D312D, 4), 4 * i);
        ready("feed", x.feed(0x302D3120, 4), 120);
        due("120 bytes that are a TEXT", x.text(), 1);
        for (int i = 1; i <= 30; i++) ready("feed", x.feed(0x302D312D, 4), 4 * i);
        due("120 bytes that end too early", x.text(), -220);
        for (int i = 1; i <= 29; i++) ready("feed", x.feed(0x302D312D, 4), 4 * i);
        ready("feed", x.feed(0x302D3178, 4), 120);
        due("a FAULT at the last byte", x.text(), -219);
        for (int i = 1; i <= 30; i++) ready("feed", x.feed(0x20202020, 4), 4 * i);
        due("120 blanks", x.text(), -220);
        for (int i = 1; i <= 30; i++) ready("feed", x.feed(i < 30 ? 0x20202020 : 0x20202031, 4), 4 * i);
        due("119 blanks and a POINT", x.text(), 0);
        for (int i = 1; i <= 30; i++) ready("feed", x.feed(0x30303030, 4), 4 * i);
        due("one NUMBER of 120 digits", x.text(), 0);
        due("room again", x.feed(0, 4), 4);
    }

    /** POINTS and LINES count that are there when it is read, not when its bytes came. */
    private static void textOfTheNetThen() {
        promise(33);
        MissedPoints x = net(2, "");
        feed(x, "0-4-1");
        ready("points", x.points(3), 5);
        due("POINTS that came later", x.text(), 2);
        feed(x, "3-4");
        ready("deal", x.deal(4, 0), 0);
        due("a POINT that is gone", x.text(), -102);
        feed(x, "0-1,1-2");
        ready("line", x.line(1, 2, 1), 0);
        due("a LINE that came later isn't new", x.text(), 1);
        feed(x, "0-1");
        ready("line", x.line(0, 1, 0), 1);
        due("a LINE that went is new", x.text(), 1);
        feed(x, "0-");
        ready("FAULT", x.text(), -102);
        due("what was told before a FAULT isn't told later", read(x, "3"), 0);
        due("LINES of an earlier TEXT don't come again", x.line(0, 1, 0), 1);
        due("LINES of an earlier TEXT don't come again", read(x, "2-3"), 1);
        due("LINES of an earlier TEXT don't come again", x.next(0), 0);
        feed(x, "0-1-2");
        feed(x, "-3-0");
        due("bytes that came at several times are one TEXT", x.text(), 2);
    }

    private static void seed() {
        promise(34);
        MissedPoints x = new MissedPoints();
        due("1 at first", x.seed(0), 1);
        int was = 0;
        for (int v : new int[] {-1, LEAST, MOST, -14, 0, 7}) {
            due("what it was", x.seed(v), was);
            due("what it is", x.count(6), v);
            was = v;
        }
    }

    /** The DRAWS from z on, by numbers that don't wrap round by themselves. */
    private static long drawn(long z) {
        return (z * 1103515245L + 12345L & 0xFFFFFFFFL);
    }

    private static void deal() {
        promise(35);
        MissedPoints x = new MissedPoints();
        due("two POINTS, one DRAW", x.deal(2, 10), 1);
        due("z goes on", x.count(6), (int) drawn(1));
        each("n too small or too large", BAD, n -> x.deal(n, 5), -1, 13, LEAST, MOST);
        each("odds too small or too large", BAD, odds -> x.deal(3, odds), -1, 11, LEAST, MOST);
        each("both", BAD, v -> x.deal(v, v), -1, 13, LEAST, MOST);
        due("refused: POINTS are as they were", x.count(0), 2);
        due("refused: LINES are as they were", x.next(0), 2);
        due("refused: z is as it was", x.count(6), (int) drawn(1));
        due("all there were are none", x.deal(0, 10), 0);
        due("no POINTS", x.count(0), 0);
        due("no POINTS, no DRAW", x.count(6), (int) drawn(1));
        due("one POINT", x.deal(1, 10), 0);
        due("one POINT", x.count(0), 1);
        due("one POINT, no DRAW", x.count(6), (int) drawn(1));
        for (int odds : new int[] {0, 10}) {
            ready("seed", x.seed(1) == 1 ? 1 : 0, 0);
            due("twelve, each or none", x.deal(12, odds), odds == 0 ? 0 : 66);
            long z = 1;
            for (int i = 0; i < 66; i++) z = drawn(z);
            due("a DRAW for each two, also where it doesn't matter", x.count(6), (int) z);
        }
    }

    private static void dealAtItsBounds() {
        promise(35);
        MissedPoints x = new MissedPoints();
        for (int seed : new int[] {0, 1, -1, LEAST, MOST, 12345, 99}) {
            long z = drawn(seed);
            int rest = (int) (z / 65536 % 10);
            x.seed(seed);
            due("the rest is not below odds that are as great", x.deal(2, rest), 0);
            due("z wraps round as an int does", x.count(6), (int) z);
            x.seed(seed);
            due("the rest is below odds that are one more", x.deal(2, rest + 1), 1);
        }
        // By the lesser, then by the greater: 0 1, 0 2, 0 3, 1 2, 1 3, 2 3.
        long z = 7;
        int[] near = new int[4];
        for (int a = 0; a < 4; a++) {
            for (int b = a + 1; b < 4; b++) {
                z = drawn(z);
                if (z / 65536 % 10 < 4) {
                    near[a] |= 1 << b;
                    near[b] |= 1 << a;
                }
            }
        }
        x.seed(7);
        due("by the lesser, then by the greater", x.deal(4, 4), (Integer.bitCount(near[0]) + Integer.bitCount(near[1])
            + Integer.bitCount(near[2]) + Integer.bitCount(near[3])) / 2);
        row("by the lesser, then by the greater", x::next, near);
        ready("line", x.line(0, 1, 1), near[0] >> 1 & 1);
        due("LINES there were are none", x.deal(12, 0), 0);
        row("LINES there were are none", x::next, 0, 0, 0, 0);
    }

    private static void times() {
        promise(36);
        MissedPoints x = net(3, "0-1");
        ready("seed", x.seed(77), 1);
        due("the fewest times", x.times(1, 5, 10, 1), 1);
        due("the most times", x.times(20, 5, 10, 1), 20);
        due("no POINTS", x.times(20, 0, 5, 0), 20);
        due("no POINTS", x.times(20, 0, 5, 1), 0);
        due("one POINT", x.times(20, 1, 5, 1), 20);
        due("twelve, no LINES, LACK 12", x.times(20, 12, 0, 12), 20);
        due("twelve, all LINES, LACK 0", x.times(20, 12, 10, 0), 20);
        due("LACK is never so", x.times(20, 12, 10, 12), 0);
        each("n too small or too large", BAD, n -> x.times(n, 1, 1, 1), 0, -1, 21, LEAST, MOST);
        each("points too small or too large", BAD, points -> x.times(1, points, 1, 1), -1, 13, LEAST, MOST);
        each("odds too small or too large", BAD, odds -> x.times(1, 1, odds, 1), -1, 11, LEAST, MOST);
        each("k too small or too large", BAD, k -> x.times(1, 1, 1, k), -1, 13, LEAST, MOST);
        int all = 0;
        for (int k = 0; k <= 12; k++) all += x.times(20, 7, 2, k);
        due("each time has one LACK", all, 20);
        due("in thought: z", x.count(6), 77);
        due("in thought: POINTS", x.count(0), 3);
        due("in thought: LINES", x.count(1), 1);
        due("in thought: LACK", x.count(3), 1);
        MissedPoints y = new MissedPoints();
        ready("seed", y.seed(77), 1);
        int found = 0;
        for (int i = 0; i < 20; i++) {
            y.deal(7, 2);
            if (y.count(3) == 3) found++;
        }
        due("one behind another", x.times(20, 7, 2, 3), found);
    }

    private static void shelf() {
        promise(37);
        // 2 and the ring of 0, 5, 6 are BLOCKS, 1 is their HUB, 3 and 4 are a CALM one.
        MissedPoints x = net(7, "(0 5 6),5-1-2,3-4,1-3");
        each("no SHELF", BAD, h -> x.shelf(h, 5, 0), NO_PLACE);
        each("no SHELF, also with a POINT", BAD, h -> x.shelf(h, 0, 0), NO_PLACE);
        each("what is none such", BAD, what -> x.shelf(0, what, 0), -1, 6, LEAST, MOST);
        each("no POINT", BAD, n -> x.shelf(0, 0, n), -1, 7, 12, 32, LEAST, MOST);
        each("no BLOCK", BAD, n -> x.shelf(0, 1, n), -1, 2, 12, LEAST, MOST);
        each("no CALM one", BAD, n -> x.shelf(0, 2, n), -1, 1, 12, LEAST, MOST);
        each("no set of POINTS", BAD, n -> x.shelf(0, 3, n), 128, 129, 4096, -1, LEAST, MOST);
        each("no SHEET", BAD, n -> x.shelf(0, 4, n), NO_PLACE);
        each("missing", NOTHING, n -> x.shelf(0, 4, n), 0, 1, 2, 3);
        each("BAD is named ahead of -11", BAD, h -> x.shelf(h, 4, 0), NO_PLACE);
        due("refused: nothing is held", x.taken(0, 0), NOTHING);
        for (int h = 0; h < 4; h++) {
            due("the last POINT", x.shelf(h, 0, 6), 1);
            due("it is LOOSE: a SPOT", x.taken(h, 1), 64);
            due("it is no KEY", x.taken(h, 3), OTHER);
            due("one of the REST", x.shelf(h, 0, 4), 1);
            due("it is a SPOT, too", x.taken(h, 1), 16);
            due("it is no KEY", x.taken(h, 3), OTHER);
            due("a HUB", x.shelf(h, 0, 1), 1);
            due("it is a KEY", x.taken(h, 3), 2);
            due("the first BLOCK", x.shelf(h, 1, 0), 1);
            due("it is a KNOT", x.taken(h, 4), 97);
            due("the last BLOCK", x.shelf(h, 1, 1), 1);
            due("it is a KNOT", x.taken(h, 4), 4);
            due("the only CALM one", x.shelf(h, 2, 0), 1);
            due("it is a POOL", x.taken(h, 5), 24);
            due("the empty set", x.shelf(h, 3, 0), 1);
            due("it is an AREA", x.taken(h, 2), 0);
            due("all POINTS", x.shelf(h, 3, 127), 1);
            due("they are an AREA", x.taken(h, 2), 127);
            each("nothing, n doesn't matter", 1, n -> x.shelf(3, 5, n), 0, -1, 99, LEAST, MOST);
        }
        due("nothing is held", x.taken(3, 0), NOTHING);
        due("another SHELF still holds", x.taken(2, 2), 127);
        each("refused: it still holds", BAD, n -> x.shelf(2, 0, n), -1, 7, LEAST, MOST);
        due("refused: it still holds", x.taken(2, 2), 127);
        MissedPoints none = new MissedPoints();
        due("no POINTS: the empty set", none.shelf(0, 3, 0), 1);
        due("no POINTS", none.shelf(0, 0, 0), BAD);
        due("no POINTS, no BLOCK", none.shelf(0, 1, 0), BAD);
        due("no POINTS, no CALM one", none.shelf(0, 2, 0), BAD);
    }

    private static void shelfOfRows() {
        promise(37);
        MissedPoints x = net(2, "0-1");
        ready("a row of no numbers", x.sheet(0, 0, 0), 1);
        ready("a row of forty", x.sheet(3, 1, 40), 1);
        due("a row of no numbers", x.shelf(0, 4, 0), 1);
        due("a row of no numbers", x.taken(0, 10), 0);
        due("a row of forty", x.shelf(3, 4, 3), 1);
        due("a row of forty", x.taken(3, 11), 40);
        ready("the SHEET goes", x.sheet(3, -1, 0), 1);
        due("the row that it was then", x.taken(3, 11), 40);
        ready("another row", x.sheet(0, 1, 9), 1);
        due("the row that it was then", x.taken(0, 10), 0);
        ready("paint", x.paint(0, 1), 2);
        due("the row that it was then", x.taken(0, 10), 0);
        due("the row that it is now", x.shelf(0, 4, 0), 1);
        due("the row that it is now", x.taken(0, 11), 2);
        due("missing now", x.shelf(0, 4, 3), NOTHING);
        due("refused: it still holds", x.taken(0, 11), 2);
    }

    private static void taken() {
        promise(38);
        MissedPoints x = net(7, "(0 5 6),5-1-2,3-4,1-3");
        each("no SHELF", BAD, h -> x.taken(h, 0), NO_PLACE);
        each("no KIND and no sort", BAD, as -> x.taken(0, as), -1, 6, 7, 9, 12, LEAST, LEAST + 10, MOST);
        each("nothing is held", NOTHING, as -> x.taken(0, as), 0, 1, 2, 3, 4, 5, 10, 11);
        each("BAD is named ahead of -11", BAD, as -> x.taken(0, as), -1, 6, 9, 12);
        ready("a SPOT", x.shelf(0, 0, 2), 1);
        row("a SPOT", as -> x.taken(0, as), 4, 4, OTHER, OTHER, OTHER, OTHER);
        ready("an AREA", x.shelf(1, 3, 9), 1);
        row("an AREA", as -> x.taken(1, as), 9, OTHER, 9, OTHER, OTHER, OTHER);
        ready("a KEY", x.shelf(2, 0, 1), 1);
        row("a KEY, under SPOT and THING", as -> x.taken(2, as), 2, 2, OTHER, 2, OTHER, OTHER);
        ready("a KNOT", x.shelf(3, 1, 0), 1);
        row("a KNOT, under AREA and THING", as -> x.taken(3, as), 97, OTHER, 97, OTHER, 97, OTHER);
        ready("a POOL", x.shelf(0, 2, 0), 1);
        row("a POOL, under AREA and THING", as -> x.taken(0, as), 24, OTHER, 24, OTHER, OTHER, 24);
        for (int h = 0; h < 4; h++) {
            due("no THING is a row of shorts", x.taken(h, 10), OTHER);
            due("no THING is a row of ints", x.taken(h, 11), OTHER);
        }
        each("BAD is named ahead of -13", BAD, as -> x.taken(0, as), -1, 6, 9, 12);
        ready("the net goes", x.deal(0, 0), 0);
        due("POINTS as they were", x.taken(3, 4), 97);
        ready("another net", x.deal(2, 10), 1);
        due("a KEY as it was", x.taken(2, 3), 2);
        ready("shorts", x.sheet(0, 0, 3), 1);
        ready("a row", x.shelf(0, 4, 0), 1);
        row("a row is no THING", as -> x.taken(0, as), OTHER, OTHER, OTHER, OTHER, OTHER, OTHER);
        due("a row of shorts", x.taken(0, 10), 3);
        due("it is none of ints", x.taken(0, 11), OTHER);
        ready("ints", x.sheet(0, 1, 5), 1);
        ready("a row", x.shelf(1, 4, 0), 1);
        due("a row of ints", x.taken(1, 11), 5);
        due("it is none of shorts", x.taken(1, 10), OTHER);
    }

    private static void held() {
        promise(39);
        MissedPoints x = net(4, "0-1,0-2,0-3");
        each("no KIND", BAD, kind -> x.held(kind, 0), -1, 6, 10, 11, LEAST, MOST);
        each("no KIND, also where there would be none", BAD, kind -> x.held(kind, 2), -1, 6, 10, 11, LEAST, MOST);
        each("what is none such", BAD, what -> x.held(0, what), -1, 3, LEAST, MOST);
        row("none", what -> x.held(0, what), 0, 0, NONE);
        ready("an empty AREA", x.shelf(3, 3, 0), 1);
        row("an empty set is a THING, and has most POINTS", what -> x.held(0, what), 1, 0, 3);
        row("an empty AREA is no KNOT", what -> x.held(4, what), 0, 0, NONE);
        ready("another empty AREA", x.shelf(1, 3, 0), 1);
        row("of several the least SHELF", what -> x.held(2, what), 2, 0, 1);
        ready("three POINTS", x.shelf(2, 3, 7), 1);
        ready("three POINTS", x.shelf(3, 3, 14), 1);
        row("most POINTS ahead of the least SHELF", what -> x.held(2, what), 3, 15, 2);
        ready("a KEY", x.shelf(0, 0, 0), 1);
        ready("a SPOT", x.shelf(1, 0, 3), 1);
        ready("an AREA", x.shelf(2, 3, 6), 1);
        ready("a KNOT", x.shelf(3, 1, 0), 1);
        row("THINGS: all four", what -> x.held(0, what), 4, 1 | 8 | 6 | 2, 2);
        row("SPOTS: the KEY, too", what -> x.held(1, what), 2, 9, 0);
        row("AREAS: the KNOT, too", what -> x.held(2, what), 2, 6, 2);
        row("KEYS", what -> x.held(3, what), 1, 1, 0);
        row("KNOTS", what -> x.held(4, what), 1, 2, 3);
        row("POOLS: none", what -> x.held(5, what), 0, 0, NONE);
        ready("a sheet", x.sheet(0, 0, 40), 1);
        for (int h = 0; h < 4; h++) ready("a row", x.shelf(h, 4, 0), 1);
        for (int kind = 0; kind < 6; kind++) {
            int k = kind;
            row("rows are no THINGS", what -> x.held(k, what), 0, 0, NONE);
        }
    }

    private static void heldAsTheyWere() {
        promise(39);
        MissedPoints x = net(4, "0-1,0-2,0-3");
        ready("a KEY", x.shelf(1, 0, 0), 1);
        ready("a KNOT", x.shelf(2, 1, 2), 1);
        ready("an AREA", x.shelf(3, 3, 6), 1);
        ready("the net goes", x.deal(0, 0), 0);
        row("POINTS as they were", what -> x.held(0, what), 3, 1 | 8 | 6, 3);
        row("KINDS as they were", what -> x.held(3, what), 1, 1, 1);
        ready("image", x.image(), 0);
        ready("points", x.points(2), 2);
        ready("back", x.back(), 0);
        row("THE IMAGE has no SHELVES", what -> x.held(4, what), 1, 8, 2);
    }

    private static void sheet() {
        promise(40);
        MissedPoints x = new MissedPoints();
        for (int s = 0; s < 4; s++) {
            due("the most numbers", x.sheet(s, s & 1, 40), 1);
            int sheet = s;
            each("all 0", 0, i -> x.item(sheet, i), 0, 1, 39);
            due("no more than that", x.item(s, 40), OUTSIDE);
        }
        ready("write", x.write(0, 0, 5), 1);
        each("n above 40", BAD, n -> x.sheet(0, 0, n), 41, 80, MOST);
        each("a size below 0", BELOW, n -> x.sheet(0, 1, n), -1, -40, LEAST);
        each("no sort", BAD, sort -> x.sheet(0, sort, 1), -2, 2, 10, LEAST, MOST);
        each("no SHEET", BAD, s -> x.sheet(s, 0, 1), NO_PLACE);
        each("no SHEET, missing or not", BAD, s -> x.sheet(s, -1, 1), NO_PLACE);
        each("BAD is named ahead of -14: s", BAD, s -> x.sheet(s, 0, -1), NO_PLACE);
        each("BAD is named ahead of -14: sort", BAD, sort -> x.sheet(0, sort, -1), -2, 2, LEAST, MOST);
        due("refused: the row is as it was", x.item(0, 0), 5);
        due("refused: the row is as it was", x.item(0, 39), 0);
        due("no numbers", x.sheet(0, 0, 0), 1);
        due("no numbers", x.item(0, 0), OUTSIDE);
        due("one number", x.sheet(0, 1, 1), 1);
        due("one number", x.item(0, 0), 0);
        ready("write", x.write(0, 0, 9), 1);
        ready("write", x.write(1, 39, 9), 1);
        due("all 0 anew", x.sheet(0, 1, 2), 1);
        due("all 0 anew", x.item(0, 0), 0);
        due("all 0 anew, the last of forty", x.sheet(1, 1, 40), 1);
        due("all 0 anew, the last of forty", x.item(1, 39), 0);
        each("missing, n doesn't matter", 1, n -> x.sheet(0, -1, n), 0, 41, -1, LEAST, MOST);
        due("missing", x.item(0, 0), NOTHING);
        due("another one is there", x.item(1, 39), 0);
    }

    private static void write() {
        promise(41);
        MissedPoints x = new MissedPoints();
        ready("shorts", x.sheet(0, 0, 3), 1);
        ready("ints", x.sheet(1, 1, 40), 1);
        ready("none", x.sheet(2, 1, 0), 1);
        int[] values = {32767, 32768, 65535, 65536, -32768, -32769, LEAST, MOST, 0};
        int[] shorts = {32767, -32768, -1, 0, -32768, 32767, 0, -1, 0};
        for (int i = 0; i < values.length; i++) {
            due("of shorts its lowest bits", x.write(0, 2, values[i]), 1);
            due("of shorts its lowest bits", x.item(0, 2), shorts[i]);
            due("of ints all bits", x.write(1, 39, values[i]), 1);
            due("of ints all bits", x.item(1, 39), values[i]);
        }
        due("the first", x.write(0, 0, 8), 1);
        row("only that one", i -> x.item(0, i), 8, 0, 0, OUTSIDE);
        each("a place outside", OUTSIDE, i -> x.write(0, i, 7), -1, 3, 40, LEAST, MOST);
        each("a place outside of forty", OUTSIDE, i -> x.write(1, i, 7), -1, 40, LEAST, MOST);
        each("a place in no numbers", OUTSIDE, i -> x.write(2, i, 7), -1, 0, LEAST, MOST);
        each("missing, wherever", NOTHING, i -> x.write(3, i, 7), -1, 0, 40, LEAST, MOST);
        each("no SHEET", BAD, s -> x.write(s, 0, 7), NO_PLACE);
        each("BAD is named ahead of -12", BAD, s -> x.write(s, -1, 7), NO_PLACE);
        row("refused: as they were", i -> x.item(0, i), 8, 0, 0, OUTSIDE);
    }

    private static void item() {
        promise(42);
        MissedPoints x = new MissedPoints();
        ready("shorts", x.sheet(0, 0, 2), 1);
        ready("ints", x.sheet(1, 1, 40), 1);
        ready("none", x.sheet(2, 0, 0), 1);
        for (int v : new int[] {-1, -2, -3, -4, -11, -12, -13, -14, LEAST, MOST}) {
            ready("write", x.write(1, 39, v), 1);
            due("as low as these", x.item(1, 39), v);
        }
        each("a place outside", OUTSIDE, i -> x.item(0, i), -1, 2, 40, LEAST, MOST);
        each("a place outside of forty", OUTSIDE, i -> x.item(1, i), -1, 40, LEAST, MOST);
        each("a place in no numbers", OUTSIDE, i -> x.item(2, i), -1, 0, LEAST, MOST);
        each("missing, wherever", NOTHING, i -> x.item(3, i), -1, 0, 40, LEAST, MOST);
        each("no SHEET", BAD, s -> x.item(s, 0), NO_PLACE);
        each("BAD is named ahead of -12", BAD, s -> x.item(s, -1), NO_PLACE);
    }

    private static void copy() {
        promise(43);
        MissedPoints x = new MissedPoints();
        tell(x, 0, 0, 1, 2, 3, 4, 5);
        tell(x, 1, 0, 9, 9, 9);
        due("to another one", x.copy(0, 2, 1, 0, 3), 3);
        row("to another one", i -> x.item(1, i), 3, 4, 5, OUTSIDE);
        row("what is copied stays", i -> x.item(0, i), 1, 2, 3, 4, 5, OUTSIDE);
        due("to the same, further on: as they were", x.copy(0, 0, 0, 1, 4), 4);
        row("to the same, further on: as they were", i -> x.item(0, i), 1, 1, 2, 3, 4, OUTSIDE);
        due("to the same, further ahead: as they were", x.copy(0, 1, 0, 0, 4), 4);
        row("to the same, further ahead: as they were", i -> x.item(0, i), 1, 2, 3, 4, 4, OUTSIDE);
        due("to the same place", x.copy(0, 0, 0, 0, 5), 5);
        row("to the same place", i -> x.item(0, i), 1, 2, 3, 4, 4, OUTSIDE);
        due("no numbers", x.copy(0, 0, 1, 0, 0), 0);
        due("no numbers, behind the last ones", x.copy(0, 5, 1, 3, 0), 0);
        row("no numbers", i -> x.item(1, i), 3, 4, 5, OUTSIDE);
        ready("ints", x.sheet(2, 1, 5), 1);
        each("no SHEET to copy from", BAD, s -> x.copy(s, 0, 1, 0, 1), NO_PLACE);
        each("no SHEET to copy to", BAD, t -> x.copy(0, 0, t, 0, 1), NO_PLACE);
        each("BAD is named ahead of -11", BAD, s -> x.copy(s, 0, 3, 0, 1), NO_PLACE);
        each("BAD is named ahead of -11", BAD, t -> x.copy(3, 0, t, 0, 1), NO_PLACE);
        each("BAD is named ahead of -12", BAD, s -> x.copy(s, -1, s, -1, -1), NO_PLACE);
        due("the first is missing", x.copy(3, 0, 0, 0, 1), NOTHING);
        due("the second is missing", x.copy(0, 0, 3, 0, 1), NOTHING);
        due("both are missing", x.copy(3, 0, 3, 0, 1), NOTHING);
        due("-11 is named ahead of -12", x.copy(0, -1, 3, 99, -1), NOTHING);
        due("-11 is named ahead of -12", x.copy(3, -1, 0, 99, -1), NOTHING);
        due("shorts to ints", x.copy(0, 0, 2, 0, 1), OTHER);
        due("ints to shorts", x.copy(2, 0, 0, 0, 1), OTHER);
        due("of unlike sorts, also no numbers", x.copy(0, 0, 2, 0, 0), OTHER);
        each("-13 is named ahead of -12", OTHER, n -> x.copy(0, -1, 2, 99, n), -1, 1, LEAST, MOST);
        row("refused: as they were", i -> x.item(2, i), 0, 0, 0, 0, 0, OUTSIDE);
        tell(x, 3, 1, LEAST, MOST, -1);
        due("ints to ints", x.copy(3, 0, 2, 2, 3), 3);
        row("ints to ints", i -> x.item(2, i), 0, 0, LEAST, MOST, -1, OUTSIDE);
    }

    private static void copyOutside() {
        promise(43);
        MissedPoints x = new MissedPoints();
        tell(x, 0, 1, 1, 2, 3, 4, 5);
        tell(x, 1, 1, 6, 7, 8);
        each("n below 0", OUTSIDE, n -> x.copy(0, 0, 1, 0, n), -1, -2, LEAST);
        each("n below 0, from behind", OUTSIDE, n -> x.copy(0, 5, 1, 3, n), -1, -2, LEAST);
        each("i below 0", OUTSIDE, i -> x.copy(0, i, 1, 0, 1), -1, LEAST);
        each("i below 0, no numbers", OUTSIDE, i -> x.copy(0, i, 1, 0, 0), -1, LEAST);
        each("j below 0", OUTSIDE, j -> x.copy(0, 0, 1, j, 1), -1, LEAST);
        each("j below 0, no numbers", OUTSIDE, j -> x.copy(0, 0, 1, j, 0), -1, LEAST);
        each("i too large", OUTSIDE, i -> x.copy(0, i, 1, 0, 2), 4, 5, 6, MOST);
        each("i too large, no numbers", OUTSIDE, i -> x.copy(0, i, 1, 0, 0), 6, MOST);
        each("j too large", OUTSIDE, j -> x.copy(0, 0, 1, j, 2), 2, 3, 4, MOST);
        each("j too large, no numbers", OUTSIDE, j -> x.copy(0, 0, 1, j, 0), 4, MOST);
        each("n too large for the second", OUTSIDE, n -> x.copy(0, 0, 1, 0, n), 4, 5, MOST);
        each("n too large for the first", OUTSIDE, n -> x.copy(1, 0, 0, 0, n), 4, 5, MOST);
        each("the sum wraps round: i", OUTSIDE, i -> x.copy(0, i, 1, 0, MOST), 1, 5, MOST);
        each("the sum wraps round: j", OUTSIDE, j -> x.copy(0, 0, 1, j, MOST), 1, 3, MOST);
        row("refused: as they were", i -> x.item(0, i), 1, 2, 3, 4, 5, OUTSIDE);
        row("refused: as they were", i -> x.item(1, i), 6, 7, 8, OUTSIDE);
        due("just inside", x.copy(0, 3, 1, 1, 2), 2);
        row("just inside", i -> x.item(1, i), 6, 4, 5, OUTSIDE);
        ready("forty", x.sheet(2, 1, 40), 1);
        ready("write", x.write(2, 0, 3), 1);
        due("thirty-nine of forty, by one", x.copy(2, 0, 2, 1, 39), 39);
        due("as they were", x.item(2, 39), 0);
        due("as they were", x.item(2, 1), 3);
        due("all forty", x.copy(2, 0, 2, 0, 40), 40);
        due("forty-one", x.copy(2, 0, 2, 0, 41), OUTSIDE);
    }

    private static void image() {
        promise(44);
        MissedPoints x = new MissedPoints();
        due("no POINTS", x.image(), 0);
        ready("points", x.points(12), 12);
        due("THE IMAGE of no POINTS", x.back(), 0);
        due("THE IMAGE of no POINTS", x.count(0), 0);
        ready("all LINES", x.deal(12, 10), 66);
        int z = x.count(6);
        due("twelve POINTS", x.image(), 12);
        due("it changes nothing", x.count(1), 66);
        ready("another net", x.deal(0, 0), 0);
        ready("seed", x.seed(5), z);
        due("the later one counts", x.back(), 12);
        row("the later one counts", x::count, 12, 66, 6, 0, 1, 0, z);
        ready("a LINE goes", x.line(0, 11, 0), 1);
        due("THE IMAGE is not the net", x.image(), 12);
        ready("a LINE comes", x.line(0, 11, 1), 0);
        ready("back", x.back(), 12);
        due("THE IMAGE is not the net", x.count(1), 65);
    }

    private static void back() {
        promise(45);
        MissedPoints x = net(3, "0-1");
        due("there is none", x.back(), STATE);
        due("refused: POINTS", x.count(0), 3);
        due("refused: LINES", x.count(1), 1);
        ready("seed", x.seed(17), 1);
        ready("image", x.image(), 3);
        ready("a sheet", x.sheet(0, 1, 2), 1);
        ready("a shelf", x.shelf(0, 3, 5), 1);
        ready("bytes", x.feed(0x302D32, 3), 3);
        ready("another net", x.deal(5, 10), 10);
        ready("its marks", x.marked(0), 31);
        ready("its BARRIERS", x.barriers(0), 1);
        ready("its PAIRINGS", x.ways(2), 15);
        due("POINTS", x.back(), 3);
        row("LINES", x::next, 2, 1, 0, BAD);
        due("z", x.count(6), 17);
        due("MARKS are those of this net", x.marked(0), 4);
        due("BARRIERS are those of this net", x.barriers(0), 3);
        due("PAIRINGS are those of this net", x.ways(1), 1);
        due("THE TAPE isn't kept", x.count(5), 3);
        due("SHEETS aren't kept", x.item(0, 1), 0);
        due("SHELVES aren't kept", x.taken(0, 2), 5);
        due("THE TAPE isn't kept", x.text(), 1);
        due("it stays", x.back(), 3);
        due("it stays", x.count(1), 1);
        ready("points", x.points(9), 12);
        due("twice without a change", x.back(), 3);
        due("twice without a change", x.back(), 3);
        due("twice without a change", x.count(0), 3);
        // One change there and one back again must not look like no change.
        ready("the LINE goes", x.line(0, 1, 0), 1);
        ready("LACK without it", x.count(3), 3);
        ready("another LINE comes", x.line(0, 2, 1), 0);
        ready("back", x.back(), 3);
        due("LACK of THE IMAGE's net", x.count(3), 1);
    }

    private static void backToTheSameDraws() {
        promise(45);
        MissedPoints x = net(4, "0-1-2-3");
        ready("seed", x.seed(4711), 1);
        ready("paint", x.paint(0, 0), 4);
        ready("image", x.image(), 4);
        int lines = x.deal(9, 3);
        int[] near = new int[9];
        for (int p = 0; p < 9; p++) near[p] = x.next(p);
        due("another net: it TELLS none", x.isTold(0), 0);
        ready("back", x.back(), 4);
        due("the net that it tells is there again", x.isTold(0), 1);
        due("z as it was: the same DRAWS", x.deal(9, 3), lines);
        row("z as it was: the same DRAWS", x::next, near);
        int more = x.deal(9, 3);
        ready("back", x.back(), 4);
        ready("the first one", x.deal(9, 3), lines);
        due("z goes on from there", x.deal(9, 3), more);
        ready("image", x.image(), 9);
        ready("the net goes", x.deal(0, 0), 0);
        due("THE IMAGE of a dealt net", x.back(), 9);
        due("its LINES", x.count(1), more);
    }
}
