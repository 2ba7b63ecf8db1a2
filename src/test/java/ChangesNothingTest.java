import java.lang.reflect.Method;
import java.util.List;
import java.util.function.Supplier;
import java.util.function.ToIntFunction;

/** The terms: refused calls and questions change nothing, whatever they answer; each object is its own. */
public final class ChangesNothingTest extends Bench {
    private static final List<String> ASKS = List.of("next", "count", "most", "mate", "ways", "alone", "mark", "marked",
        "pieces", "piece", "surplus", "odd", "barrier", "barriers", "critical", "ear", "verdict", "verdicts", "without",
        "mends", "breaks", "isTold", "misses", "way", "chains", "times", "taken", "held", "item");
    // For calls of one, two, .. numbers: fewer of them, the more numbers a call takes.
    private static final int[][] NUMBERS = {{}, {-1, 0, 1, 2, 3, 4, 5, 6, 7, 11, 12, 31, 127, 4095, LEAST, MOST},
        {-1, 0, 1, 2, 3, 7, 31, LEAST}, {-1, 0, 1, 2, 4}, {0, 1, 5}};

    public static void main(String[] args) throws Exception {
        refusedNet();
        refusedSheets();
        refusedCopies();
        refusedThings();
        refusedWhereFull();
        refusedWhereNew();
        faults();
        for (String name : ASKS) asked(name);
        others();
        runsSideBySide();
        end("ChangesNothingTest");
    }

    /**
     * Seven POINTS of all three MARKS, SHEETS that tell a PAIRING with a WAY (0) and without one (1), that
     * tell none (2) and that is missing (3), THINGS, a row and nothing on SHELVES, bytes, an IMAGE, a z below 0.
     */
    private static MissedPoints rich() {
        MissedPoints x = net(3, "0-2");
        ready("seed", x.seed(99), 1);
        ready("image", x.image(), 3);
        ready("line", x.line(0, 2, 0), 1);
        ready("points", x.points(4), 7);
        ready("text", read(x, "(0 5 6),5-1-2,3-4,1-3"), 7);
        ready("LOOSE ones", x.marked(0), 1 | 4 | 32 | 64);
        ready("HUBS", x.marked(1), 2);
        ready("the REST", x.marked(2), 8 | 16);
        ready("seed", x.seed(-5), 99);
        tell(x, 0, 0, 5, -1, -1, 4, 3, 0, -1);
        ready("WAY", x.way(0, -1), 2);
        ready("paint", x.paint(1, 1), 7);
        tell(x, 2, 0, 1, 2, 3, -4, 5, 6, 7, 8, 9);
        ready("a KEY", x.shelf(0, 0, 1), 1);
        ready("a KNOT", x.shelf(1, 1, 0), 1);
        ready("a row", x.shelf(2, 4, 2), 1);
        feed(x, "2-3, [1 4 0]");
        return x;
    }

    /** No POINT and no byte more has room. */
    private static MissedPoints full() {
        MissedPoints x = rich();
        ready("points", x.points(5), 12);
        for (int i = x.count(5); i < 120; i += 4) ready("feed", x.feed(0x20202020, 4), i + 4);
        return x;
    }

    /** All that can be asked about what an object holds, THE TAPE and THE IMAGE too. */
    private static String all(MissedPoints x) {
        StringBuilder b = new StringBuilder();
        net(b, x);
        for (int h = 0; h < 4; h++) {
            for (int as : new int[] {0, 1, 2, 3, 4, 5, 10, 11}) b.append(' ').append(x.taken(h, as));
        }
        for (int s = 0; s < 4; s++) {
            b.append('\n');
            for (int i = 0; i < 12; i++) b.append(' ').append(x.item(s, i));
            // A number that a row of shorts can't hold shows the sort.
            b.append(' ').append(x.write(s, 0, 70000)).append(' ').append(x.item(s, 0));
        }
        b.append("\ntext ").append(x.text());
        net(b, x);
        b.append("\nback ").append(x.back());
        net(b, x);
        return b.toString();
    }

    private static void net(StringBuilder b, MissedPoints x) {
        for (int what = 0; what < 7; what++) b.append(' ').append(x.count(what));
        for (int p = 0; p < 12; p++) b.append(' ').append(x.next(p));
        for (int mark = 0; mark < 3; mark++) b.append(' ').append(x.marked(mark));
        b.append('\n');
    }

    private static void same(String what, MissedPoints x, MissedPoints twin) {
        String got = all(x);
        String want = all(twin);
        due(what + " left all as it was", got.equals(want) ? 1 : 0, 1);
        if (!got.equals(want)) System.out.println("  now:\n" + got + "\n  due:\n" + want);
    }

    private static void refused(String what, Supplier<MissedPoints> scene, int want, ToIntFunction<MissedPoints> call) {
        MissedPoints x = scene.get();
        due(what, call.applyAsInt(x), want);
        due(what + ", once more", call.applyAsInt(x), want);
        same(what, x, scene.get());
    }

    private static void refused(String what, int want, ToIntFunction<MissedPoints> call) {
        refused(what, ChangesNothingTest::rich, want, call);
    }

    private static void refusedNet() {
        refused("points(0)", BAD, x -> x.points(0));
        refused("points(-1)", BAD, x -> x.points(-1));
        refused("points(13)", BAD, x -> x.points(13));
        refused("points(6), five have room", FULL, x -> x.points(6));
        refused("points(12), five have room", FULL, x -> x.points(12));
        refused("line(0, 0, 1)", BAD, x -> x.line(0, 0, 1));
        refused("line(0, 7, 1)", BAD, x -> x.line(0, 7, 1));
        refused("line(7, 0, 1)", BAD, x -> x.line(7, 0, 1));
        refused("line(-1, 0, 1)", BAD, x -> x.line(-1, 0, 1));
        refused("line(0, 1, 2)", BAD, x -> x.line(0, 1, 2));
        refused("line(0, 5, 2)", BAD, x -> x.line(0, 5, 2));
        refused("line(0, 5, -1)", BAD, x -> x.line(0, 5, -1));
        refused("deal(-1, 5)", BAD, x -> x.deal(-1, 5));
        refused("deal(13, 5)", BAD, x -> x.deal(13, 5));
        refused("deal(5, -1)", BAD, x -> x.deal(5, -1));
        refused("deal(5, 11)", BAD, x -> x.deal(5, 11));
        refused("feed, n 0", BAD, x -> x.feed(0x30303030, 0));
        refused("feed, n 5", BAD, x -> x.feed(0x30303030, 5));
        refused("feed, n -1", BAD, x -> x.feed(0x30303030, -1));
    }

    private static void refusedSheets() {
        refused("grow(4)", BAD, x -> x.grow(4));
        refused("grow(-1)", BAD, x -> x.grow(-1));
        refused("grow of a missing one", NOTHING, x -> x.grow(3));
        refused("grow of one that TELLS none", STATE, x -> x.grow(2));
        refused("grow without a WAY", NONE, x -> x.grow(1));
        refused("paint(4, 0)", BAD, x -> x.paint(4, 0));
        refused("paint(-1, 0)", BAD, x -> x.paint(-1, 0));
        refused("paint(0, 2)", BAD, x -> x.paint(0, 2));
        refused("paint(2, -1)", BAD, x -> x.paint(2, -1));
        refused("paint(3, 2)", BAD, x -> x.paint(3, 2));
        refused("sheet(4, 0, 1)", BAD, x -> x.sheet(4, 0, 1));
        refused("sheet(-1, -1, 0)", BAD, x -> x.sheet(-1, -1, 0));
        refused("sheet(0, 2, 1)", BAD, x -> x.sheet(0, 2, 1));
        refused("sheet(0, -2, 1)", BAD, x -> x.sheet(0, -2, 1));
        refused("sheet(1, 0, 41)", BAD, x -> x.sheet(1, 0, 41));
        refused("sheet(3, 1, 41)", BAD, x -> x.sheet(3, 1, 41));
        refused("sheet(2, 0, -1)", BELOW, x -> x.sheet(2, 0, -1));
        refused("sheet(3, 1, -1)", BELOW, x -> x.sheet(3, 1, -1));
        refused("write(4, 0, 5)", BAD, x -> x.write(4, 0, 5));
        refused("write to a missing one", NOTHING, x -> x.write(3, 0, 5));
        refused("write(0, -1, 5)", OUTSIDE, x -> x.write(0, -1, 5));
        refused("write(0, 7, 5)", OUTSIDE, x -> x.write(0, 7, 5));
        refused("write(0, 39, 5)", OUTSIDE, x -> x.write(0, 39, 5));
    }

    private static void refusedCopies() {
        refused("copy from no SHEET", BAD, x -> x.copy(4, 0, 0, 0, 1));
        refused("copy to no SHEET", BAD, x -> x.copy(0, 0, -1, 0, 1));
        refused("copy from a missing one", NOTHING, x -> x.copy(3, 0, 0, 0, 1));
        refused("copy to a missing one", NOTHING, x -> x.copy(0, 0, 3, 0, 1));
        refused("copy of shorts to ints", OTHER, x -> x.copy(0, 0, 1, 0, 1));
        refused("copy of ints to shorts", OTHER, x -> x.copy(1, 0, 0, 0, 1));
        refused("copy of too many", OUTSIDE, x -> x.copy(2, 0, 0, 0, 8));
        refused("copy of more than there are", OUTSIDE, x -> x.copy(0, 0, 2, 0, 8));
        refused("copy of fewer than none", OUTSIDE, x -> x.copy(2, 3, 0, 3, -1));
        refused("copy from below 0", OUTSIDE, x -> x.copy(2, -1, 0, 0, 2));
        refused("copy to below 0", OUTSIDE, x -> x.copy(2, 0, 0, -1, 2));
        refused("copy from where some are inside", OUTSIDE, x -> x.copy(2, 8, 0, 0, 2));
        refused("copy to where some are inside", OUTSIDE, x -> x.copy(2, 0, 0, 6, 2));
        refused("copy onto itself, too far", OUTSIDE, x -> x.copy(2, 0, 2, 1, 9));
    }

    private static void refusedThings() {
        refused("shelf(4, 5, 0)", BAD, x -> x.shelf(4, 5, 0));
        refused("shelf(-1, 5, 0)", BAD, x -> x.shelf(-1, 5, 0));
        for (int h = 0; h < 4; h++) {
            int to = h;
            refused("shelf, what -1", BAD, x -> x.shelf(to, -1, 0));
            refused("shelf, what 6", BAD, x -> x.shelf(to, 6, 0));
            refused("shelf of no POINT", BAD, x -> x.shelf(to, 0, 7));
            refused("shelf of no BLOCK", BAD, x -> x.shelf(to, 1, 2));
            refused("shelf of no CALM one", BAD, x -> x.shelf(to, 2, 1));
            refused("shelf of no set", BAD, x -> x.shelf(to, 3, 128));
            refused("shelf of no SHEET", BAD, x -> x.shelf(to, 4, 4));
            refused("shelf of a missing SHEET", NOTHING, x -> x.shelf(to, 4, 3));
        }
    }

    private static void refusedWhereFull() {
        refused("points(1) in a full net", ChangesNothingTest::full, FULL, x -> x.points(1));
        refused("points(0) in a full net", ChangesNothingTest::full, BAD, x -> x.points(0));
        refused("points(13) in a full net", ChangesNothingTest::full, BAD, x -> x.points(13));
        refused("feed of one to a full tape", ChangesNothingTest::full, FULL, x -> x.feed(48, 1));
        refused("feed of four to a full tape", ChangesNothingTest::full, FULL, x -> x.feed(0x30303030, 4));
        refused("feed of five to a full tape", ChangesNothingTest::full, BAD, x -> x.feed(48, 5));
    }

    private static void refusedWhereNew() {
        refused("back without an IMAGE", MissedPoints::new, STATE, MissedPoints::back);
        refused("line without POINTS", MissedPoints::new, BAD, x -> x.line(0, 1, 1));
        refused("grow of a missing one", MissedPoints::new, NOTHING, x -> x.grow(0));
        refused("write to a missing one", MissedPoints::new, NOTHING, x -> x.write(0, 0, 1));
        refused("copy of missing ones", MissedPoints::new, NOTHING, x -> x.copy(0, 0, 1, 0, 0));
        refused("shelf of no POINT", MissedPoints::new, BAD, x -> x.shelf(0, 0, 0));
        refused("shelf of a missing SHEET", MissedPoints::new, NOTHING, x -> x.shelf(0, 4, 0));
    }

    /** With a FAULT nothing comes of THE TAPE, but it is empty then: so it is told. */
    private static void faults() {
        for (String text : new String[] {"", "0-1,", "0-1-2-3-4,(0 1)", "[0 1 2 3 4 5 6]x", "(0 1 2 3 4 5 6 7)", "0-1,7"}) {
            MissedPoints x = rich();
            MissedPoints twin = rich();
            ready("wipe", x.wipe(), 12);
            due("a FAULT in '" + text + "'", Math.max(read(x, text), -100), -100);
            ready("wipe", twin.wipe(), 12);
            same("text '" + text + "'", x, twin);
        }
    }

    /** On one object all numbers in turn, in a scene where much can be told, and where nothing can. */
    private static void asked(String name) throws Exception {
        Method ask = null;
        for (Method m : MissedPoints.class.getDeclaredMethods()) if (m.getName().equals(name)) ask = m;
        if (ask == null) {
            due(name + " is there", 0, 1);
            return;
        }
        List<Supplier<MissedPoints>> scenes = List.of(ChangesNothingTest::rich, ChangesNothingTest::full, MissedPoints::new);
        for (Supplier<MissedPoints> scene : scenes) {
            MissedPoints x = scene.get();
            int[] numbers = NUMBERS[ask.getParameterCount()];
            int runs = (int) Math.round(Math.pow(numbers.length, ask.getParameterCount()));
            for (int run = 0; run < runs; run++) {
                Object[] args = new Object[ask.getParameterCount()];
                for (int i = 0, rest = run; i < args.length; i++, rest /= numbers.length) {
                    args[i] = numbers[rest % numbers.length];
                }
                Object first = ask.invoke(x, args);
                ready(name + " asked twice answers the same", (int) ask.invoke(x, args), (int) first);
            }
            same(name, x, scene.get());
        }
    }

    /** Each call that changes an object, on another one: this one is left alone. */
    private static void others() {
        promise(1);
        MissedPoints x = rich();
        MissedPoints other = rich();
        ready("text", other.text(), 4);
        ready("image", other.image(), 7);
        ready("grow", other.grow(0), 3);
        ready("paint", other.paint(2, 1), 7);
        ready("write", other.write(1, 0, 77), 1);
        ready("copy", other.copy(1, 0, 2, 1, 3), 3);
        ready("sheet", other.sheet(3, 0, 40), 1);
        ready("sheet", other.sheet(0, -1, 0), 1);
        ready("shelf", other.shelf(0, 5, 0), 1);
        ready("shelf", other.shelf(3, 3, 127), 1);
        ready("points", other.points(5), 12);
        ready("line", other.line(10, 11, 1), 0);
        ready("feed", other.feed(0x30303030, 4), 4);
        ready("seed", other.seed(4), -5);
        ready("deal", other.deal(12, 10), 66);
        ready("times", other.times(20, 12, 10, 0), 20);
        same("the use of another object", x, rich());
        due("a new one has nothing of either", new MissedPoints().count(0), 0);
    }

    /** The same calls by turns on two objects with other nets: each answers as it would alone. */
    private static void runsSideBySide() {
        promise(1);
        MissedPoints x = new MissedPoints();
        MissedPoints y = new MissedPoints();
        for (int round = 0; round < 20; round++) {
            x.seed(round);
            x.deal(8, 2);
            y.deal(9, 3);
            MissedPoints alone = new MissedPoints();
            ready("seed", alone.seed(round), 1);
            alone.deal(8, 2);
            for (int what = 0; what < 5; what++) {
                y.count(what);
                due("count beside another object", x.count(what), alone.count(what));
            }
            for (int what = 0; what < 3; what++) {
                y.barriers(what);
                due("barriers beside another object", x.barriers(what), alone.barriers(what));
            }
            y.ways(3);
            due("ways beside another object", x.ways(3), alone.ways(3));
        }
    }
}
