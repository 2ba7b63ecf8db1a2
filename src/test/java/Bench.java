import java.util.function.IntUnaryOperator;

/** What the tests by hand have in common: answers that are due, counted for each promise. */
abstract class Bench {
    static final int NONE = -1, BAD = -2, STATE = -3, FULL = -4;
    static final int NOTHING = -11, OUTSIDE = -12, OTHER = -13, BELOW = -14;
    static final int LEAST = Integer.MIN_VALUE, MOST = Integer.MAX_VALUE;
    static final int PROMISES = 45;

    private static final int[] asked = new int[PROMISES + 1];
    private static int promise = 0;
    private static int wrong = 0;

    /** What is due from here on is due by this promise. */
    static void promise(int number) { promise = number; }

    static void due(String what, int got, int want) {
        asked[promise]++;
        ready(what, got, want);
    }

    /** An answer on the way to the one that is looked at: it must be right, but tests no promise. */
    static void ready(String what, int got, int want) {
        if (got == want) return;
        wrong++;
        System.out.println((promise == 0 ? "" : "promise " + promise + ": ") + what + " answered " + got
            + ", due is " + want);
    }

    /** The same answer is due for each of the numbers. */
    static void each(String what, int want, IntUnaryOperator call, int... numbers) {
        for (int v : numbers) due(what + " (" + v + ")", call.applyAsInt(v), want);
    }

    /** The answers that are due for 0, 1, .. */
    static void row(String what, IntUnaryOperator call, int... wants) {
        for (int i = 0; i < wants.length; i++) due(what + " " + i, call.applyAsInt(i), wants[i]);
    }

    /** An object with n POINTS and the LINES of a text. */
    static MissedPoints net(int n, String text) {
        MissedPoints x = new MissedPoints();
        if (n > 0) ready("points", x.points(n), n);
        if (!text.isEmpty()) ready("fault of " + text, Math.min(read(x, text), 0), 0);
        return x;
    }

    static void feed(MissedPoints x, String text) {
        for (int i = 0; i < text.length(); i += 4) {
            int n = Math.min(4, text.length() - i);
            int bytes = 0;
            for (int k = 0; k < n; k++) bytes = bytes << 8 | text.charAt(i + k);
            int had = x.count(5);
            ready("feed", x.feed(bytes, n), had + n);
        }
    }

    static int read(MissedPoints x, String text) {
        feed(x, text);
        return x.text();
    }

    static void tell(MissedPoints x, int s, int sort, int... numbers) {
        ready("sheet", x.sheet(s, sort, numbers.length), 1);
        for (int i = 0; i < numbers.length; i++) ready("write", x.write(s, i, numbers[i]), 1);
    }

    /** Each of these promises must have been asked for. */
    static void needAll(int first, int last) {
        for (int p = first; p <= last; p++) {
            if (asked[p] > 0) continue;
            wrong++;
            System.out.println("promise " + p + " has no test");
        }
    }

    /** Ends the test, with exit code 1 if something was wrong. */
    static void end(String name) {
        int all = 0;
        for (int count : asked) all += count;
        System.out.println(name + ": " + all + " answers, " + wrong + " wrong");
        if (wrong != 0) System.exit(1);
    }
}
