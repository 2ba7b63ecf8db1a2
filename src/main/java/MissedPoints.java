/**
 * A net of at most twelve POINTS, parted by its GREATEST PAIRINGS, with all that the document
 * asks of such a net. Sets of POINTS are ints, one bit a POINT.
 */
public final class MissedPoints {
    public static final int NONE = -1, BAD = -2, STATE = -3, FULL = -4;

    private static final int NOTHING_HELD = -11, OUTSIDE = -12, OTHER_SORT = -13, SIZE_BELOW_ZERO = -14;

    private static final int MOST_POINTS = 12;
    private static final int SETS = 1 << MOST_POINTS;
    private static final int MOST_LINES_PAIRED = 6;
    private static final int MOST_BYTES = 120;
    private static final int MOST_NUMBERS = 40;
    private static final int SHEETS = 4;
    private static final int SHELVES = 4;
    private static final int MOST_ODDS = 10;
    private static final int MOST_TIMES = 20;
    private static final int FAULT_BASE = -100;

    private static final int LOOSE = 0, HUB = 1, REST = 2;
    private static final int NOT_IN_ANY = 0, ALLOWED = 1, FORCED = 2;

    private static final int THING = 0, SPOT = 1, AREA = 2, KEY = 3, KNOT = 4, POOL = 5;
    private static final int KINDS = 6;
    private static final int ROW = 10;

    private final Net net = new Net();
    private final Pairs pairs = new Pairs(net);
    private final Parting parting = new Parting(net, pairs);
    private final Witness witness = new Witness(net, pairs);
    private final Net thoughtNet = new Net();
    private final Pairs thoughtPairs = new Pairs(thoughtNet);
    private final Net imageNet = new Net();
    private boolean imageKept;
    private int imageZ;
    private final Draws draws = new Draws();
    private final Tape tape = new Tape();
    private final Reader reader = new Reader(tape, net);
    private final Sheet[] sheets = new Sheet[SHEETS];
    private final Told told = new Told(net, pairs);
    private final Told otherTold = new Told(net, pairs);
    private final Shelves shelves = new Shelves();

    public MissedPoints() {
        for (int s = 0; s < SHEETS; s++) {
            sheets[s] = new Sheet();
        }
    }

    // ---- the net

    public int points(int n) {
        if (n < 1 || n > MOST_POINTS) {
            return BAD;
        }
        if (n > MOST_POINTS - net.size) {
            return FULL;
        }
        net.add(n);
        return net.size;
    }

    public int line(int a, int b, int on) {
        if (!net.areTwo(a, b) || (on != 0 && on != 1)) {
            return BAD;
        }
        int was = net.joined(a, b) ? 1 : 0;
        if (was != on) {
            net.join(a, b, on == 1);
        }
        return was;
    }

    public int next(int p) {
        return net.hasPoint(p) ? net.near(p) : BAD;
    }

    public int count(int what) {
        switch (what) {
            case 0: return net.size;
            case 1: return net.lineCount();
            case 2: return pairs.best(net.all());
            case 3: return pairs.lack(net.all());
            case 4: return net.pieceCount(net.all());
            case 5: return tape.size;
            case 6: return draws.z;
            default: return BAD;
        }
    }

    // ---- greatest pairings

    public int most(int set) {
        return net.hasAll(set) ? pairs.best(set) : BAD;
    }

    public int mate(int p) {
        if (!net.hasPoint(p)) {
            return BAD;
        }
        told.becomeFirst();
        return told.mateOf(p);
    }

    public int ways(int n) {
        if (n < 0 || n > MOST_LINES_PAIRED) {
            return BAD;
        }
        return pairs.number(net.all(), n);
    }

    public int alone(int p, int part) {
        if (!net.hasPoint(p) || (part != 0 && part != 1)) {
            return BAD;
        }
        int lines = pairs.best(net.all());
        int missing = pairs.number(net.all() & ~(1 << p), lines);
        int whole = pairs.number(net.all(), lines);
        int common = greatestDivisor(missing, whole);
        if (common < 1) {
            return BAD;
        }
        return (part == 0 ? missing : whole) / common;
    }

    private static int greatestDivisor(int a, int b) {
        int greater = a;
        int lesser = b;
        for (int step = 0; step < 64 && lesser != 0; step++) {
            int rest = greater % lesser;
            greater = lesser;
            lesser = rest;
        }
        return greater;
    }

    // ---- the three parts

    public int mark(int p) {
        return net.hasPoint(p) ? parting.markOf(p) : BAD;
    }

    public int marked(int mark) {
        return mark < LOOSE || mark > REST ? BAD : parting.allOf(mark);
    }

    public int pieces(int which) {
        if (which != 0 && which != 1) {
            return BAD;
        }
        return net.pieceCount(parting.allOf(markOfPieces(which)));
    }

    public int piece(int which, int i, int what) {
        if ((which != 0 && which != 1) || (what != 0 && what != 1)) {
            return BAD;
        }
        int found = net.pieceAt(parting.allOf(markOfPieces(which)), i);
        if (found == 0) {
            return NONE;
        }
        return what == 0 ? found : net.nearAny(found) & parting.allOf(HUB);
    }

    private static int markOfPieces(int which) {
        return which == 0 ? LOOSE : REST;
    }

    public int surplus(int hubs) {
        return (hubs & ~parting.allOf(HUB)) != 0 ? BAD : parting.surplusOf(hubs);
    }

    // ---- what shows it

    public int odd(int set) {
        return net.hasAll(set) ? witness.oddWithout(set) : BAD;
    }

    public int barrier(int set) {
        if (!net.hasAll(set)) {
            return BAD;
        }
        return witness.isBarrier(set) ? 1 : 0;
    }

    public int barriers(int what) {
        if (what < 0 || what > 2) {
            return BAD;
        }
        witness.seekBarriers();
        if (what == 0) {
            return witness.barrierCount;
        }
        return what == 1 ? witness.greatestBarrier : witness.inEachBarrier;
    }

    public int critical(int set) {
        if (!net.hasAll(set)) {
            return BAD;
        }
        return witness.isCritical(set) ? 1 : 0;
    }

    public int ear(int set, int i) {
        if (!net.hasAll(set)) {
            return BAD;
        }
        if (!witness.isCritical(set)) {
            return STATE;
        }
        witness.seekEars(set);
        return i == -1 ? witness.earCount : witness.earAt(i);
    }

    public int verdict(int a, int b) {
        if (!net.areTwo(a, b)) {
            return BAD;
        }
        return net.joined(a, b) ? pairs.judge(a, b) : NONE;
    }

    public int verdicts(int v) {
        if (v < NOT_IN_ANY || v > FORCED) {
            return BAD;
        }
        int found = 0;
        for (int a = 0; a < net.size; a++) {
            for (int b = a + 1; b < net.size; b++) {
                if (net.joined(a, b) && pairs.judge(a, b) == v) {
                    found++;
                }
            }
        }
        return found;
    }

    // ---- one more, one less

    public int without(int p) {
        return net.hasPoint(p) ? pairs.lack(net.all() & ~(1 << p)) : BAD;
    }

    public int mends(int what) {
        return firstOrCount(what, true);
    }

    public int breaks(int what) {
        return firstOrCount(what, false);
    }

    private int firstOrCount(int what, boolean mending) {
        if (what != 0 && what != 1) {
            return BAD;
        }
        int found = 0;
        for (int a = 0; a < net.size; a++) {
            for (int b = a + 1; b < net.size; b++) {
                if (mending ? pairs.isMend(a, b) : pairs.judge(a, b) == FORCED) {
                    if (what == 0) {
                        return MOST_POINTS * a + b;
                    }
                    found++;
                }
            }
        }
        return what == 0 ? NONE : found;
    }

    // ---- pairings told by sheets

    public int isTold(int s) {
        int refusal = refusalOfSheet(s);
        if (refusal != 0) {
            return refusal;
        }
        return told.readFrom(sheets[s]) ? 1 : 0;
    }

    public int misses(int s) {
        int refusal = refusalOfTold(s);
        return refusal != 0 ? refusal : told.missed();
    }

    public int way(int s, int i) {
        int refusal = refusalOfTold(s);
        if (refusal != 0) {
            return refusal;
        }
        int length = told.seekWay();
        if (i == -1) {
            return length == 0 ? NONE : length;
        }
        return told.wayAt(i);
    }

    public int grow(int s) {
        int refusal = refusalOfTold(s);
        if (refusal != 0) {
            return refusal;
        }
        if (told.seekWay() == 0) {
            return NONE;
        }
        told.turnWay();
        told.writeTo(sheets[s], sheets[s].sort);
        return told.lineCount();
    }

    public int chains(int s, int t, int what) {
        if (!isSheet(s) || !isSheet(t) || what < 0 || what > 2) {
            return BAD;
        }
        if (sheets[s].isMissing() || sheets[t].isMissing()) {
            return NOTHING_HELD;
        }
        if (!told.readFrom(sheets[s]) || !otherTold.readFrom(sheets[t])) {
            return STATE;
        }
        return told.chainsWith(otherTold, what);
    }

    public int paint(int s, int sort) {
        if (!isSheet(s) || !isSort(sort)) {
            return BAD;
        }
        told.becomeFirst();
        told.writeTo(sheets[s], sort);
        return net.size;
    }

    private int refusalOfSheet(int s) {
        if (!isSheet(s)) {
            return BAD;
        }
        return sheets[s].isMissing() ? NOTHING_HELD : 0;
    }

    /** Where this answers 0, the PAIRING of the SHEET has been read. */
    private int refusalOfTold(int s) {
        int refusal = refusalOfSheet(s);
        if (refusal != 0) {
            return refusal;
        }
        return told.readFrom(sheets[s]) ? 0 : STATE;
    }

    private static boolean isSheet(int s) {
        return s >= 0 && s < SHEETS;
    }

    private static boolean isSort(int sort) {
        return sort == Sheet.SHORTS || sort == Sheet.INTS;
    }

    // ---- texts

    public int feed(int bytes, int n) {
        if (n < 1 || n > 4) {
            return BAD;
        }
        if (n > MOST_BYTES - tape.size) {
            return FULL;
        }
        for (int i = n - 1; i >= 0; i--) {
            tape.append(bytes >>> 8 * i & 255);
        }
        return tape.size;
    }

    public int wipe() {
        return tape.clear();
    }

    public int text() {
        int fault = reader.readAll();
        tape.clear();
        return fault >= 0 ? FAULT_BASE - fault : net.joinAll(reader.links);
    }

    // ---- draws

    public int seed(int v) {
        int was = draws.z;
        draws.z = v;
        return was;
    }

    public int deal(int n, int odds) {
        if (!canDeal(n, odds)) {
            return BAD;
        }
        net.dealAnew(n, odds, draws);
        return net.lineCount();
    }

    public int times(int n, int points, int odds, int k) {
        if (n < 1 || n > MOST_TIMES || !canDeal(points, odds) || k < 0 || k > MOST_POINTS) {
            return BAD;
        }
        int keptZ = draws.z;
        int found = 0;
        for (int i = 0; i < n; i++) {
            thoughtNet.dealAnew(points, odds, draws);
            if (thoughtPairs.lack(thoughtNet.all()) == k) {
                found++;
            }
        }
        draws.z = keptZ;
        return found;
    }

    private static boolean canDeal(int n, int odds) {
        return n >= 0 && n <= MOST_POINTS && odds >= 0 && odds <= MOST_ODDS;
    }

    // ---- things, sheets

    public int shelf(int h, int what, int n) {
        if (!isShelf(h)) {
            return BAD;
        }
        switch (what) {
            case 0: return shelvePoint(h, n);
            case 1: return shelvePiece(h, KNOT, LOOSE, n);
            case 2: return shelvePiece(h, POOL, REST, n);
            case 3: return shelveArea(h, n);
            case 4: return shelveRow(h, n);
            case 5: return shelves.put(h, Shelves.EMPTY, 0);
            default: return BAD;
        }
    }

    private int shelvePoint(int h, int p) {
        if (!net.hasPoint(p)) {
            return BAD;
        }
        return shelves.put(h, parting.markOf(p) == HUB ? KEY : SPOT, 1 << p);
    }

    private int shelvePiece(int h, int kind, int mark, int i) {
        int found = net.pieceAt(parting.allOf(mark), i);
        return found == 0 ? BAD : shelves.put(h, kind, found);
    }

    private int shelveArea(int h, int set) {
        return net.hasAll(set) ? shelves.put(h, AREA, set) : BAD;
    }

    /** A row never changes its sort or size, so these two are all that a SHELF needs of it. */
    private int shelveRow(int h, int s) {
        int refusal = refusalOfSheet(s);
        if (refusal != 0) {
            return refusal;
        }
        return shelves.put(h, ROW + sheets[s].sort, sheets[s].size);
    }

    public int taken(int h, int as) {
        boolean isThing = isKind(as);
        if (!isShelf(h) || (!isThing && !isSort(as - ROW))) {
            return BAD;
        }
        if (shelves.isEmpty(h)) {
            return NOTHING_HELD;
        }
        boolean fits = isThing ? shelves.holdsThing(h, as) : shelves.holdsRow(h, as);
        return fits ? shelves.worthOf(h) : OTHER_SORT;
    }

    public int held(int kind, int what) {
        if (!isKind(kind) || what < 0 || what > 2) {
            return BAD;
        }
        if (what == 0) {
            return shelves.countOf(kind);
        }
        return what == 1 ? shelves.pointsOf(kind) : shelves.fullestOf(kind);
    }

    private static boolean isShelf(int h) {
        return h >= 0 && h < SHELVES;
    }

    private static boolean isKind(int kind) {
        return kind >= THING && kind < KINDS;
    }

    public int sheet(int s, int sort, int n) {
        if (!isSheet(s)) {
            return BAD;
        }
        if (sort == Sheet.MISSING) {
            sheets[s].become(Sheet.MISSING, 0);
            return 1;
        }
        if (!isSort(sort) || n > MOST_NUMBERS) {
            return BAD;
        }
        if (n < 0) {
            return SIZE_BELOW_ZERO;
        }
        sheets[s].become(sort, n);
        return 1;
    }

    public int write(int s, int i, int v) {
        int refusal = refusalOfNumber(s, i);
        if (refusal != 0) {
            return refusal;
        }
        sheets[s].store(i, v);
        return 1;
    }

    public int item(int s, int i) {
        int refusal = refusalOfNumber(s, i);
        return refusal != 0 ? refusal : sheets[s].at(i);
    }

    private int refusalOfNumber(int s, int i) {
        int refusal = refusalOfSheet(s);
        if (refusal != 0) {
            return refusal;
        }
        return sheets[s].hasRange(i, 1) ? 0 : OUTSIDE;
    }

    public int copy(int s, int i, int t, int j, int n) {
        if (!isSheet(s) || !isSheet(t)) {
            return BAD;
        }
        Sheet from = sheets[s];
        Sheet to = sheets[t];
        if (from.isMissing() || to.isMissing()) {
            return NOTHING_HELD;
        }
        if (from.sort != to.sort) {
            return OTHER_SORT;
        }
        if (!from.hasRange(i, n) || !to.hasRange(j, n)) {
            return OUTSIDE;
        }
        from.copyTo(i, to, j, n);
        return n;
    }

    // ---- the image

    public int image() {
        imageNet.become(net);
        imageZ = draws.z;
        imageKept = true;
        return net.size;
    }

    public int back() {
        if (!imageKept) {
            return STATE;
        }
        net.become(imageNet);
        draws.z = imageZ;
        return net.size;
    }

    /**
     * Numbers from 0 to 65535 that are true till the net changes. Each carries the age it was
     * found in, so that a change needs no clearing of the whole row.
     */
    private static final class Memo {
        private static final int LAST_AGE = 32767;
        private static final int LOW_BITS = 65535;

        private final int[] cells;
        private int age = 1;

        Memo(int size) {
            cells = new int[Math.max(size, 0)];
        }

        boolean isBlank() {
            return cells.length == 0;
        }

        int recall(int i) {
            if (i < 0 || i >= cells.length || cells[i] >>> 16 != age) {
                return NONE;
            }
            return cells[i] & LOW_BITS;
        }

        void keep(int i, int value) {
            if (i >= 0 && i < cells.length) {
                cells[i] = age << 16 | value & LOW_BITS;
            }
        }

        void forget() {
            if (age == LAST_AGE) {
                for (int i = 0; i < cells.length; i++) {
                    cells[i] = 0;
                }
                age = 0;
            }
            age++;
        }
    }

    /** POINTS and LINES, and what hangs together by them. */
    private static final class Net {
        private final int[] links = new int[MOST_POINTS];
        private int size;
        private int changes;

        int all() {
            return (1 << size) - 1;
        }

        boolean hasPoint(int p) {
            return p >= 0 && p < size;
        }

        boolean hasAll(int set) {
            return (set & ~all()) == 0;
        }

        boolean areTwo(int a, int b) {
            return hasPoint(a) && hasPoint(b) && a != b;
        }

        void add(int n) {
            size = Math.min(size + n, MOST_POINTS);
            changes++;
        }

        boolean joined(int a, int b) {
            return areTwo(a, b) && (links[a] >> b & 1) != 0;
        }

        void join(int a, int b, boolean on) {
            if (!areTwo(a, b)) {
                return;
            }
            if (on) {
                links[a] |= 1 << b;
                links[b] |= 1 << a;
            } else {
                links[a] &= ~(1 << b);
                links[b] &= ~(1 << a);
            }
            changes++;
        }

        /** Joins all that the rows of bits tell: how many LINES are new. */
        int joinAll(int[] rows) {
            int fresh = 0;
            for (int a = 0; a < size && a < rows.length; a++) {
                for (int b = a + 1; b < size; b++) {
                    if ((rows[a] >> b & 1) != 0 && !joined(a, b)) {
                        join(a, b, true);
                        fresh++;
                    }
                }
            }
            return fresh;
        }

        void empty() {
            for (int p = 0; p < MOST_POINTS; p++) {
                links[p] = 0;
            }
            size = 0;
            changes++;
        }

        void become(Net other) {
            System.arraycopy(other.links, 0, links, 0, MOST_POINTS);
            size = other.size;
            changes++;
        }

        /** Draws for each two, also where the odds leave no doubt: z goes on by all of them. */
        void dealAnew(int n, int odds, Draws draws) {
            empty();
            add(n);
            for (int a = 0; a < size; a++) {
                for (int b = a + 1; b < size; b++) {
                    if (draws.draw() % 10 < odds) {
                        join(a, b, true);
                    }
                }
            }
        }

        int near(int p) {
            return hasPoint(p) ? links[p] : 0;
        }

        int nearAny(int set) {
            int found = 0;
            for (int p = 0; p < size; p++) {
                if ((set >> p & 1) != 0) {
                    found |= links[p];
                }
            }
            return found;
        }

        int lineCount() {
            int ends = 0;
            for (int p = 0; p < size; p++) {
                ends += Integer.bitCount(links[p]);
            }
            return ends / 2;
        }

        int pieceCount(int set) {
            int left = set & all();
            int found = 0;
            for (int i = 0; i < MOST_POINTS && left != 0; i++) {
                left &= ~firstPiece(links, left);
                found++;
            }
            return found;
        }

        int oddPieceCount(int set) {
            int left = set & all();
            int found = 0;
            for (int i = 0; i < MOST_POINTS && left != 0; i++) {
                int piece = firstPiece(links, left);
                left &= ~piece;
                found += Integer.bitCount(piece) & 1;
            }
            return found;
        }

        /** PIECE i of a set, or no POINTS if there is none such. */
        int pieceAt(int set, int i) {
            int left = set & all();
            for (int k = 0; k < MOST_POINTS && left != 0; k++) {
                int piece = firstPiece(links, left);
                if (k == i) {
                    return piece;
                }
                left &= ~piece;
            }
            return 0;
        }

        /** The PIECE of a set that has the set's least POINT, by LINES that rows of bits tell. */
        static int firstPiece(int[] rows, int set) {
            int found = Integer.lowestOneBit(set);
            int waiting = found;
            for (int step = 0; step < MOST_POINTS && waiting != 0; step++) {
                int p = Integer.numberOfTrailingZeros(waiting);
                if (p >= rows.length) {
                    return found;
                }
                waiting &= waiting - 1;
                int fresh = rows[p] & set & ~found;
                found |= fresh;
                waiting |= fresh;
            }
            return found;
        }
    }

    /** How many LINES the PAIRINGS of PARTS have, and how many PAIRINGS there are. */
    private static final class Pairs {
        private final Net net;
        private final Memo mosts = new Memo(SETS);
        // Only some calls need the numbers of PAIRINGS, so the long row comes with the first of them.
        private Memo numbers = new Memo(0);
        private int changesSeen;

        Pairs(Net net) {
            this.net = net;
        }

        private void notice() {
            if (changesSeen != net.changes) {
                changesSeen = net.changes;
                mosts.forget();
                numbers.forget();
            }
        }

        int best(int set) {
            notice();
            return bestOf(set, 0);
        }

        int lack(int set) {
            return Integer.bitCount(set) - 2 * best(set);
        }

        boolean isWhole(int set) {
            return 2 * best(set) == Integer.bitCount(set);
        }

        /** One POINT more gives one LINE more at most, so the first MATE that gives it will do. */
        private int bestOf(int set, int depth) {
            int last = 31 - Integer.numberOfLeadingZeros(set);
            if (last < 1 || last >= MOST_POINTS || depth > MOST_POINTS) {
                return 0;
            }
            int known = mosts.recall(set);
            if (known >= 0) {
                return known;
            }
            int rest = set & ~(1 << last);
            int mates = net.links[last] & rest;
            int fewer = bestOf(rest, depth + 1);
            int lines = fewer;
            boolean hasRoom = 2 * fewer + 2 <= Integer.bitCount(set);
            for (int q = 0; q < last && hasRoom && lines == fewer; q++) {
                if ((mates >> q & 1) != 0 && bestOf(rest & ~(1 << q), depth + 1) == fewer) {
                    lines++;
                }
            }
            mosts.keep(set, lines);
            return lines;
        }

        /** How many PAIRINGS of so many LINES a PART has (62370 at most, which a Memo can hold). */
        int number(int set, int lines) {
            notice();
            if (numbers.isBlank()) {
                numbers = new Memo(MOST_LINES_PAIRED * SETS);
            }
            return numberOf(set, lines, 0);
        }

        private int numberOf(int set, int lines, int depth) {
            if (lines == 0) {
                return 1;
            }
            int last = 31 - Integer.numberOfLeadingZeros(set);
            if (lines < 0 || 2 * lines > Integer.bitCount(set) || last >= MOST_POINTS || depth > MOST_POINTS) {
                return 0;
            }
            int cell = (lines - 1) * SETS + set;
            int known = numbers.recall(cell);
            if (known >= 0) {
                return known;
            }
            int rest = set & ~(1 << last);
            int mates = net.links[last] & rest;
            int sum = numberOf(rest, lines, depth + 1);
            for (int q = 0; q < last; q++) {
                if ((mates >> q & 1) != 0) {
                    sum += numberOf(rest & ~(1 << q), lines - 1, depth + 1);
                }
            }
            numbers.keep(cell, sum);
            return sum;
        }

        int loosePoints() {
            int lines = best(net.all());
            int found = 0;
            for (int p = 0; p < net.size; p++) {
                if (best(net.all() & ~(1 << p)) == lines) {
                    found |= 1 << p;
                }
            }
            return found;
        }

        /** Two without a LINE, beside which as many LINES as are GREATEST find room. */
        boolean isMend(int a, int b) {
            return !net.joined(a, b) && best(net.all() & ~(1 << a | 1 << b)) == best(net.all());
        }

        /** A LINE is FORCED, if one of its ends is never MISSED and never has another MATE. */
        int judge(int a, int b) {
            int mates = allowedMates(a);
            if ((mates >> b & 1) == 0) {
                return NOT_IN_ANY;
            }
            boolean isLoose = best(net.all() & ~(1 << a)) == best(net.all());
            return isLoose || mates != 1 << b ? ALLOWED : FORCED;
        }

        private int allowedMates(int p) {
            int mates = net.near(p);
            int rest = net.all() & ~(1 << p);
            int due = best(net.all()) - 1;
            int found = 0;
            for (int q = 0; q < net.size; q++) {
                if ((mates >> q & 1) != 0 && best(rest & ~(1 << q)) == due) {
                    found |= 1 << q;
                }
            }
            return found;
        }

        /** Lays THE PAIRING into a row: each POINT in turn gets the least MATE that costs no LINE. */
        void layFirst(int[] mates) {
            int left = net.all();
            for (int p = 0; p < mates.length; p++) {
                mates[p] = NONE;
            }
            for (int p = 0; p < net.size && p < mates.length; p++) {
                int mate = (left >> p & 1) != 0 ? firstMate(p, left) : NONE;
                left &= ~(1 << p);
                if (mate >= 0 && mate < mates.length) {
                    mates[p] = mate;
                    mates[mate] = p;
                    left &= ~(1 << mate);
                }
            }
        }

        private int firstMate(int p, int left) {
            int rest = left & ~(1 << p);
            int mates = net.near(p) & rest;
            int due = best(left) - 1;
            for (int q = 0; q < net.size; q++) {
                if ((mates >> q & 1) != 0 && best(rest & ~(1 << q)) == due) {
                    return q;
                }
            }
            return NONE;
        }
    }

    /** The three parts: LOOSE ones, HUBS, the REST. */
    private static final class Parting {
        private final Net net;
        private final Pairs pairs;

        Parting(Net net, Pairs pairs) {
            this.net = net;
            this.pairs = pairs;
        }

        int allOf(int mark) {
            int loose = pairs.loosePoints();
            int hubs = net.nearAny(loose) & ~loose;
            if (mark == LOOSE) {
                return loose;
            }
            return mark == HUB ? hubs : net.all() & ~(loose | hubs);
        }

        int markOf(int p) {
            int loose = pairs.loosePoints();
            if ((loose >> p & 1) != 0) {
                return LOOSE;
            }
            return (net.near(p) & loose) != 0 ? HUB : REST;
        }

        int surplusOf(int hubs) {
            int touched = net.nearAny(hubs);
            int left = pairs.loosePoints();
            int found = -Integer.bitCount(hubs);
            for (int i = 0; i < MOST_POINTS && left != 0; i++) {
                int block = Net.firstPiece(net.links, left);
                left &= ~block;
                if ((block & touched) != 0) {
                    found++;
                }
            }
            return found;
        }
    }

    /** The sets that show how many POINTS must be MISSED, and how CRITICAL ones are grown. */
    private static final class Witness {
        private static final int MOST_EARS = 5;

        private final Net net;
        private final Pairs pairs;
        private final int[] ears = new int[MOST_EARS];
        private int earCount;
        private int barrierCount;
        private int greatestBarrier;
        private int inEachBarrier;
        private int changesSeen = -1;

        Witness(Net net, Pairs pairs) {
            this.net = net;
            this.pairs = pairs;
        }

        int oddWithout(int set) {
            return net.oddPieceCount(net.all() & ~set);
        }

        boolean isBarrier(int set) {
            return oddWithout(set) - Integer.bitCount(set) == pairs.lack(net.all());
        }

        /**
         * Each GREATEST PAIRING gives every POINT of a BARRIER a MATE outside of it, so none of
         * them is LOOSE: only sets of the others are looked at.
         */
        void seekBarriers() {
            if (changesSeen == net.changes) {
                return;
            }
            changesSeen = net.changes;
            int among = net.all() & ~pairs.loosePoints();
            int lack = pairs.lack(net.all());
            barrierCount = 0;
            greatestBarrier = 0;
            inEachBarrier = net.all();
            int set = 0;
            for (int step = 0; step < SETS; step++) {
                int due = Integer.bitCount(set) + lack;
                boolean hasRoom = Integer.bitCount(set) + due <= net.size;
                if (hasRoom && oddWithout(set) == due) {
                    noteBarrier(set);
                }
                if (set == among) {
                    return;
                }
                set = set - among & among;
            }
        }

        private void noteBarrier(int set) {
            if (barrierCount == 0 || Integer.bitCount(set) > Integer.bitCount(greatestBarrier)) {
                greatestBarrier = set;
            }
            inEachBarrier &= set;
            barrierCount++;
        }

        boolean isCritical(int set) {
            int size = Integer.bitCount(set);
            if ((size & 1) == 0) {
                return false;
            }
            for (int p = 0; p < net.size; p++) {
                if ((set >> p & 1) != 0 && 2 * pairs.best(set & ~(1 << p)) != size - 1) {
                    return false;
                }
            }
            return true;
        }

        void seekEars(int set) {
            int had = Integer.lowestOneBit(set);
            earCount = 0;
            for (int i = 0; i < MOST_EARS && had != set; i++) {
                int ear = nextEar(had, set & ~had);
                if (ear == 0) {
                    return;
                }
                ears[i] = ear;
                earCount++;
                had |= ear;
            }
        }

        /** All subsets of what is left come in rising order, so of equally small ones the least. */
        private int nextEar(int had, int left) {
            int found = 0;
            int fewest = MOST_POINTS + 1;
            int set = 0;
            for (int step = 0; step < SETS && set != left; step++) {
                set = set - left & left;
                int size = Integer.bitCount(set);
                if (size >= 2 && size < fewest && pairs.isWhole(left & ~set) && isCritical(had | set)) {
                    found = set;
                    fewest = size;
                }
            }
            return found;
        }

        int earAt(int i) {
            return i >= 0 && i < earCount && i < MOST_EARS ? ears[i] : NONE;
        }
    }

    /** A PAIRING as a row of MATES, its WAY, and its CHAINS with another one. */
    private static final class Told {
        private final Net net;
        private final Pairs pairs;
        private final int[] mates = new int[MOST_POINTS];
        private final int[] row = new int[MOST_POINTS];
        private final int[] unlike = new int[MOST_POINTS];
        private int rowLength;

        Told(Net net, Pairs pairs) {
            this.net = net;
            this.pairs = pairs;
        }

        void becomeFirst() {
            pairs.layFirst(mates);
        }

        int mateOf(int p) {
            return p >= 0 && p < MOST_POINTS ? mates[p] : NONE;
        }

        /** Whether the SHEET TELLS a PAIRING: this is that one then. */
        boolean readFrom(Sheet sheet) {
            if (sheet.size != net.size) {
                return false;
            }
            for (int p = 0; p < net.size; p++) {
                int mate = sheet.at(p);
                if (mate != NONE && !(net.joined(p, mate) && sheet.at(mate) == p)) {
                    return false;
                }
            }
            for (int p = 0; p < MOST_POINTS; p++) {
                mates[p] = p < net.size ? sheet.at(p) : NONE;
            }
            return true;
        }

        void writeTo(Sheet sheet, int sort) {
            sheet.become(sort, net.size);
            for (int p = 0; p < net.size; p++) {
                sheet.store(p, mates[p]);
            }
        }

        int missed() {
            int found = 0;
            for (int p = 0; p < net.size; p++) {
                if (mates[p] < 0) {
                    found |= 1 << p;
                }
            }
            return found;
        }

        int lineCount() {
            return (net.size - Integer.bitCount(missed())) / 2;
        }

        /** Finds WAY: how many POINTS it has, 0 if there is none. */
        int seekWay() {
            rowLength = 0;
            if (lineCount() >= pairs.best(net.all())) {
                return 0;
            }
            for (int length = 2; length <= net.size && rowLength == 0; length += 2) {
                if (hasWayOf(length)) {
                    rowLength = length;
                }
            }
            return rowLength;
        }

        private boolean hasWayOf(int length) {
            for (int p = 0; p < net.size; p++) {
                if (mates[p] < 0) {
                    row[0] = p;
                    if (goOn(1, length, 1 << p)) {
                        return true;
                    }
                }
            }
            return false;
        }

        /** A POINT of the row and its MATE come together, so only the former must be unlike all. */
        private boolean goOn(int place, int length, int had) {
            if (place < 1 || place >= length || length > MOST_POINTS) {
                return false;
            }
            boolean isLast = place == length - 1;
            int open = net.near(row[place - 1]) & ~had;
            for (int q = 0; q < net.size; q++) {
                if ((open >> q & 1) == 0 || isLast != mates[q] < 0) {
                    continue;
                }
                row[place] = q;
                if (isLast) {
                    return true;
                }
                row[place + 1] = mates[q];
                if (goOn(place + 2, length, had | 1 << q | 1 << mates[q])) {
                    return true;
                }
            }
            return false;
        }

        int wayAt(int i) {
            return i >= 0 && i < rowLength && i < MOST_POINTS ? row[i] : NONE;
        }

        /** LINES of WAY that were of the PAIRING go out, the others come in. */
        void turnWay() {
            for (int i = 0; i + 1 < rowLength && i + 1 < MOST_POINTS; i += 2) {
                int a = row[i];
                int b = row[i + 1];
                if (net.areTwo(a, b)) {
                    mates[a] = b;
                    mates[b] = a;
                }
            }
        }

        int chainsWith(Told other, int what) {
            int left = layUnlike(other);
            int found = 0;
            int longest = 0;
            int rings = 0;
            for (int i = 0; i < MOST_POINTS && left != 0; i++) {
                int chain = Net.firstPiece(unlike, left);
                int lines = unlikeLines(chain);
                left &= ~chain;
                found++;
                longest = Math.max(longest, lines);
                if (lines == Integer.bitCount(chain)) {
                    rings++;
                }
            }
            if (what == 0) {
                return found;
            }
            return what == 1 ? longest : rings;
        }

        /** Lays the LINES that are in just one of two PAIRINGS: the POINTS that have such. */
        private int layUnlike(Told other) {
            int found = 0;
            for (int p = 0; p < net.size; p++) {
                unlike[p] = 0;
                if (mates[p] != other.mates[p]) {
                    unlike[p] = bitOf(mates[p]) | bitOf(other.mates[p]);
                    found |= 1 << p;
                }
            }
            return found;
        }

        private static int bitOf(int mate) {
            return mate < 0 ? 0 : 1 << mate;
        }

        private int unlikeLines(int chain) {
            int ends = 0;
            for (int p = 0; p < net.size; p++) {
                if ((chain >> p & 1) != 0) {
                    ends += Integer.bitCount(unlike[p]);
                }
            }
            return ends / 2;
        }
    }

    /** A row of shorts or ints, or none. */
    private static final class Sheet {
        private static final int MISSING = -1, SHORTS = 0, INTS = 1;

        private final int[] numbers = new int[MOST_NUMBERS];
        private int sort = MISSING;
        private int size;

        boolean isMissing() {
            return sort == MISSING;
        }

        void become(int newSort, int newSize) {
            sort = newSort;
            size = Math.max(0, Math.min(newSize, MOST_NUMBERS));
            for (int i = 0; i < MOST_NUMBERS; i++) {
                numbers[i] = 0;
            }
        }

        /** Written so that no sum can wrap round. */
        boolean hasRange(int i, int n) {
            return i >= 0 && n >= 0 && n <= size && i <= size - n;
        }

        int at(int i) {
            return hasRange(i, 1) ? numbers[i] : 0;
        }

        void store(int i, int v) {
            if (hasRange(i, 1)) {
                numbers[i] = sort == SHORTS ? (short) v : v;
            }
        }

        void copyTo(int i, Sheet to, int j, int n) {
            if (hasRange(i, n) && to.hasRange(j, n)) {
                System.arraycopy(numbers, i, to.numbers, j, n);
            }
        }
    }

    /** z, and what is drawn by it. */
    private static final class Draws {
        private int z = 1;

        int draw() {
            z = z * 1103515245 + 12345;
            return z >>> 16;
        }
    }

    /** THE TAPE. */
    private static final class Tape {
        private final int[] bytes = new int[MOST_BYTES];
        private int size;

        void append(int b) {
            if (size < MOST_BYTES) {
                bytes[size] = b;
                size++;
            }
        }

        int clear() {
            int had = size;
            size = 0;
            return had;
        }

        /** NONE behind the end. */
        int byteAt(int i) {
            return i >= 0 && i < size && i < MOST_BYTES ? bytes[i] : NONE;
        }
    }

    /** Reads THE TAPE as a TEXT; what it tells stays apart from the net, for a FAULT may still come. */
    private static final class Reader {
        private static final int END = -1, NUMBER = -2, UNKNOWN = -3;
        private static final int BLANK = 32;
        private static final int MOST_VALUE = 99;

        private final Tape tape;
        private final Net net;
        private final int[] links = new int[MOST_POINTS];
        private int at;
        private int start;
        private int token;
        private int value;
        private int fault;

        Reader(Tape tape, Net net) {
            this.tape = tape;
            this.net = net;
        }

        /** FAULT, or NONE. */
        int readAll() {
            for (int p = 0; p < MOST_POINTS; p++) {
                links[p] = 0;
            }
            at = 0;
            fault = NONE;
            step();
            readItem();
            for (int i = 0; i < MOST_BYTES && fault < 0 && token == ','; i++) {
                step();
                readItem();
            }
            if (token != END) {
                fail();
            }
            return fault;
        }

        /** Only the first FAULT counts. */
        private void fail() {
            if (fault < 0) {
                fault = start;
            }
        }

        /** A digit that would make a NUMBER too great begins another one. */
        private void step() {
            for (int i = 0; i < MOST_BYTES && tape.byteAt(at) == BLANK; i++) {
                at++;
            }
            start = at;
            value = 0;
            token = tokenOf(tape.byteAt(at));
            if (token != NUMBER) {
                at += token == END ? 0 : 1;
                return;
            }
            int longer = tape.byteAt(at) - '0';
            for (int i = 0; i < MOST_BYTES && longer <= MOST_VALUE; i++) {
                value = longer;
                at++;
                int digit = tape.byteAt(at) - '0';
                longer = digit < 0 || digit > 9 ? MOST_VALUE + 1 : value * 10 + digit;
            }
        }

        private static int tokenOf(int b) {
            if (b < 0) {
                return END;
            }
            if (b >= '0' && b <= '9') {
                return NUMBER;
            }
            boolean isSign = b == '-' || b == '(' || b == ')' || b == '[' || b == ']' || b == ',';
            return isSign ? b : UNKNOWN;
        }

        private void readItem() {
            if (token == NUMBER) {
                readRow();
            } else if (token == '(') {
                readBrackets(3, ')');
            } else if (token == '[') {
                readBrackets(2, ']');
            } else {
                fail();
            }
        }

        private void readRow() {
            int last = readPoint(0);
            for (int i = 0; i < MOST_BYTES && last >= 0 && token == '-'; i++) {
                step();
                int p = readPoint(1 << last);
                joinEach(1 << last, p);
                last = p;
            }
        }

        private void readBrackets(int fewest, int closing) {
            boolean isRing = closing == ')';
            int first = 0;
            int ahead = 0;
            int had = 0;
            int last = NONE;
            step();
            for (int i = 0; i < MOST_BYTES && fault < 0 && token == NUMBER; i++) {
                last = readPoint(had);
                if (last < 0) {
                    return;
                }
                joinEach(isRing ? ahead : had, last);
                ahead = 1 << last;
                first = had == 0 ? ahead : first;
                had |= ahead;
            }
            if (Integer.bitCount(had) < fewest || token != closing) {
                fail();
                return;
            }
            if (isRing) {
                joinEach(first, last);
            }
            step();
        }

        /** The POINT that stands here, if it is none of those that were had, else NONE. */
        private int readPoint(int had) {
            if (token != NUMBER || !net.hasPoint(value) || (had >> value & 1) != 0) {
                fail();
                return NONE;
            }
            int p = value;
            step();
            return p;
        }

        private void joinEach(int set, int p) {
            if (!net.hasPoint(p)) {
                return;
            }
            for (int q = 0; q < MOST_POINTS; q++) {
                if ((set >> q & 1) != 0) {
                    links[q] |= 1 << p;
                    links[p] |= 1 << q;
                }
            }
        }
    }

    /** What the SHELVES hold: KINDS of THINGS, or ROW and a sort; with it POINTS, or a size. */
    private static final class Shelves {
        private static final int EMPTY = -1;
        private static final int MOST_STEPS = 3;
        // For each KIND the one that it stands under.
        private static final int[] ABOVE = {-1, THING, THING, SPOT, AREA, AREA};

        private final int[] kinds = {EMPTY, EMPTY, EMPTY, EMPTY};
        private final int[] worths = new int[SHELVES];

        int put(int h, int kind, int worth) {
            if (!isShelf(h)) {
                return BAD;
            }
            kinds[h] = kind;
            worths[h] = worth;
            return 1;
        }

        boolean isEmpty(int h) {
            return !isShelf(h) || kinds[h] == EMPTY;
        }

        int worthOf(int h) {
            return isShelf(h) ? worths[h] : 0;
        }

        boolean holdsRow(int h, int kind) {
            return isShelf(h) && kinds[h] == kind;
        }

        boolean holdsThing(int h, int kind) {
            int own = isShelf(h) ? kinds[h] : EMPTY;
            for (int i = 0; i < MOST_STEPS && isKind(own); i++) {
                if (own == kind) {
                    return true;
                }
                own = ABOVE[own];
            }
            return false;
        }

        int countOf(int kind) {
            int found = 0;
            for (int h = 0; h < SHELVES; h++) {
                if (holdsThing(h, kind)) {
                    found++;
                }
            }
            return found;
        }

        int pointsOf(int kind) {
            int found = 0;
            for (int h = 0; h < SHELVES; h++) {
                if (holdsThing(h, kind)) {
                    found |= worths[h];
                }
            }
            return found;
        }

        int fullestOf(int kind) {
            int found = NONE;
            int most = NONE;
            for (int h = 0; h < SHELVES; h++) {
                if (holdsThing(h, kind) && Integer.bitCount(worths[h]) > most) {
                    found = h;
                    most = Integer.bitCount(worths[h]);
                }
            }
            return found;
        }
    }
}
