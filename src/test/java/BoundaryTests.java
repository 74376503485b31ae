/**
 * One test for each sentence of the document that names a boundary case: too small, too large, empty, full,
 * a wrap-around, a refused call. Each is told with the sentence's own words, and stays within 512 calls.
 */
public final class BoundaryTests {
    private static final int MOST_CALLS = 512;
    private static final int MOST_SOLIDS = 60;
    private static final int BOUND = 100000;
    private static final int LEAST = Integer.MIN_VALUE;
    private static final int MOST = Integer.MAX_VALUE;
    private static final int BOX = 0;
    private static final int POST = 1;
    private static final int BALL = 2;
    private static final int CONE = 3;
    private static final int OR = 0;
    private static final int AND = 1;
    private static final int WITHOUT = 2;

    private static String sentence = "";
    private static int sentences = 0;
    private static int wrong = 0;

    private static void tell(String fault) {
        wrong++;
        System.out.println(sentence + "\n    " + fault);
    }

    private static void due(String call, long got, long want) {
        if (got != want) {
            tell(call + " answered " + got + ", due is " + want);
        }
    }

    private static void holds(String words, Runnable test) {
        sentence = words;
        sentences++;
        try {
            test.run();
        } catch (RuntimeException thrown) {
            tell("threw " + thrown);
        }
    }

    /** A run of calls on a new object, counted: nothing is promised after the 512th. */
    private static final class Run {
        private final SpanSolids x = new SpanSolids();
        private int calls = 0;

        private SpanSolids next() {
            calls++;
            if (calls == MOST_CALLS + 1) {
                tell("the test itself makes more than " + MOST_CALLS + " calls");
            }
            return x;
        }

        int size(int v) {
            return next().size(v);
        }

        int solid(int kind) {
            return next().solid(kind);
        }

        int join(int a, int b, int how) {
            return next().join(a, b, how);
        }

        int moved(int s) {
            return next().moved(s);
        }

        int turned(int s) {
            return next().turned(s);
        }

        int weight(int s) {
            return next().weight(s);
        }

        boolean inside(int s, int px, int py, int pz) {
            return next().inside(s, px, py, pz);
        }

        int top(int s, int px, int py) {
            return next().top(s, px, py);
        }

        int spans(int s, int px, int py) {
            return next().spans(s, px, py);
        }

        int span(int k, int what) {
            return next().span(k, what);
        }

        long within(int a, int b) {
            return next().within(a, b);
        }

        void sizes(int... values) {
            for (int value : values) {
                size(value);
            }
        }

        int make(int kind, int... values) {
            sizes(values);
            return solid(kind);
        }

        int move(int s, int byX, int byY, int byZ) {
            sizes(byX, byY, byZ);
            return moved(s);
        }

        int moveOften(int s, int times, int byX, int byY, int byZ) {
            int last = s;
            for (int i = 0; i < times; i++) {
                last = move(last, byX, byY, byZ);
            }
            return last;
        }

        /** A floor of one z over the places 0 .. 4 of x and y. */
        int floor(int z) {
            return make(BOX, 0, 0, z, 5, 5, z + 1);
        }

        int column(int z, int end) {
            return make(BOX, 0, 0, z, 5, 5, end);
        }

        void dueInside(int s, int px, int py, int pz) {
            due("inside(" + s + ", " + px + ", " + py + ", " + pz + ")", inside(s, px, py, pz) ? 1 : 0, 1);
        }

        void dueOutside(int s, int px, int py, int pz) {
            due("inside(" + s + ", " + px + ", " + py + ", " + pz + ")", inside(s, px, py, pz) ? 1 : 0, 0);
        }

        void dueSpan(int k, int first, int last) {
            due("span(" + k + ", 0)", span(k, 0), first);
            due("span(" + k + ", 1)", span(k, 1), last);
        }

        void dueSpans(int s, int px, int py, int count) {
            due("spans(" + s + ", " + px + ", " + py + ")", spans(s, px, py), count);
        }

        void dueTop(int s, int px, int py, int top) {
            due("top(" + s + ", " + px + ", " + py + ")", top(s, px, py), top);
        }

        void dueWithin(int a, int b, long count) {
            due("within(" + a + ", " + b + ")", within(a, b), count);
        }

        /** The next size is the first one only if there was none before. */
        void dueNoSizes(String after) {
            due("size(0) after " + after, size(0), 1);
            solid(LEAST);
        }

        void dueSolids(String after, int count) {
            due("weight of the last solid after " + after, weight(count) > 0 || count == 0 ? 1 : 0, 1);
            due("weight of one more after " + after, weight(count + 1), -1);
        }
    }

    private static Run oneBox() {
        Run x = new Run();
        x.make(BOX, 0, 0, 0, 10, 10, 10);
        return x;
    }

    private static Run withSolids(int count) {
        Run x = oneBox();
        for (int i = 2; i <= count; i++) {
            x.turned(1);
        }
        return x;
    }

    /** Solid k of 1 .. 50 has the weight 2 k - 1. */
    private static Run withWeights() {
        Run x = oneBox();
        for (int k = 2; k <= 50; k++) {
            x.join(k - 1, 1, OR);
        }
        return x;
    }

    /** Numbers that no solid of an object with so many has. */
    private static int[] noneOf(int count) {
        return new int[] {0, -1, count + 1, -count, count + MOST_SOLIDS, count + 256, count + 65536,
            LEAST, LEAST + 1, LEAST + count, MOST};
    }

    // The head of the document and its terms.

    private static int lastCall(Run x, int which) {
        switch (which) {
            case 0:
                return x.size(0);
            case 1:
                return x.solid(BALL);
            case 2:
                return x.join(1, 2, OR);
            case 3:
                return x.moved(1);
            case 4:
                return x.turned(1);
            case 5:
                return x.weight(1);
            case 6:
                return x.inside(1, 0, 0, 0) ? 1 : 0;
            case 7:
                return x.top(1, 0, 0);
            case 8:
                return x.spans(1, 0, 0);
            case 9:
                return x.span(0, 1);
            default:
                return (int) x.within(0, 100);
        }
    }

    private static void the512thCall() {
        int[] answers = {5, 4, 4, 4, 4, 1, 1, 10, 1, 9, 10};
        for (int which = 0; which < answers.length; which++) {
            Run x = withSolids(3);
            x.spans(1, 0, 0);
            int sizes = which == 3 ? 3 : 4;
            for (int i = 0; i < sizes; i++) {
                x.size(1);
            }
            while (x.calls < MOST_CALLS - 1) {
                x.weight(2);
            }
            due("call 512, method " + which, lastCall(x, which), answers[which]);
        }
    }

    private static void numberedFromOne() {
        Run x = new Run();
        due("the first solid", x.make(BALL, 0, 0, 0, 1), 1);
        due("a refused one", x.make(BALL, 0, 0, 0, -1), -1);
        due("the second solid", x.join(1, 1, OR), 2);
        due("the third solid", x.move(2, 0, 0, 0), 3);
        due("the fourth solid", x.turned(3), 4);
        due("weight(0)", x.weight(0), -1);
        due("weight(4)", x.weight(4), 5);
    }

    private static int another(Run x, int way) {
        switch (way) {
            case 0:
                return x.make(BALL, 0, 0, 0, 7);
            case 1:
                return x.join(1, 2, OR);
            case 2:
                return x.move(1, 0, 0, 0);
            default:
                return x.turned(1);
        }
    }

    private static void sixtyForLife() {
        for (int way = 0; way < 4; way++) {
            Run x = withSolids(MOST_SOLIDS - 1);
            due("the 60th by way " + way, another(x, way), MOST_SOLIDS);
            x.dueInside(MOST_SOLIDS, 0, 0, 0);
            for (int other = 0; other < 8; other++) {
                due("one more by way " + other % 4, another(x, other % 4), -2);
            }
            x.dueSolids("what was refused", MOST_SOLIDS);
            x.dueInside(MOST_SOLIDS, 0, 0, 0);
        }
    }

    private static void boxFromAndBelow() {
        Run x = new Run();
        int s = x.make(BOX, 1, 20, 300, 4, 25, 307);
        x.dueInside(s, 1, 20, 300);
        x.dueInside(s, 3, 24, 306);
        x.dueOutside(s, 0, 20, 300);
        x.dueOutside(s, 1, 19, 300);
        x.dueOutside(s, 1, 20, 299);
        x.dueOutside(s, 4, 24, 306);
        x.dueOutside(s, 3, 25, 306);
        x.dueOutside(s, 3, 24, 307);
        int great = x.make(BOX, -5000, -5000, -5000, 5000, 5000, 5000);
        x.dueInside(great, -5000, -5000, -5000);
        x.dueInside(great, 4999, 4999, 4999);
        x.dueOutside(great, 5000, 0, 0);
        x.dueOutside(great, 0, 5000, 0);
        x.dueOutside(great, 0, 0, 5000);
        x.dueOutside(great, -5001, 0, 0);
        x.dueOutside(great, 0, -5001, 0);
        x.dueOutside(great, 0, 0, -5001);
    }

    private static void emptyBox() {
        int[][] ends = {{3, 9, 9}, {9, 3, 9}, {9, 9, 3}, {1, 9, 9}, {9, 1, 9}, {9, 9, 1}, {3, 3, 3}, {1, 1, 1}};
        for (int[] end : ends) {
            Run x = new Run();
            due("solid(0) with no points", x.make(BOX, 3, 3, 3, end[0], end[1], end[2]), 1);
            for (int p = 0; p <= 10; p++) {
                x.dueOutside(1, p, p, p);
                x.dueSpans(1, p, p, 0);
                x.dueTop(1, p, p, 0);
            }
            x.dueOutside(1, 3, 3, 2);
            x.dueOutside(1, 2, 3, 3);
            x.dueOutside(1, 3, 2, 3);
        }
        Run x = new Run();
        x.make(BOX, 3, 3, 3, 4, 4, 4);
        x.dueInside(1, 3, 3, 3);
        x.dueSpans(1, 3, 3, 1);
        x.dueWithin(LEAST, MOST, 1);
    }

    private static void postRim() {
        Run x = new Run();
        int s = x.make(POST, 100, 200, 25, 0, 10);
        int[][] rim = {{25, 0}, {0, 25}, {7, 24}, {24, 7}, {15, 20}, {20, 15}};
        for (int[] p : rim) {
            x.dueInside(s, 100 + p[0], 200 + p[1], 5);
            x.dueInside(s, 100 - p[0], 200 - p[1], 5);
            x.dueOutside(s, 100 + p[0] + 1, 200 + p[1], 5);
            x.dueOutside(s, 100 - p[0], 200 - p[1] - 1, 5);
        }
        // The squares' sum is 626: just above the square of 25.
        x.dueOutside(s, 100 + 25, 200 + 1, 5);
        x.dueInside(s, 100 + 24, 200 + 6, 5);
        int great = x.make(POST, 5000, -5000, 5000, 0, 10);
        x.dueInside(great, 0, -5000, 5);
        x.dueInside(great, 5000 + 3000, -5000 - 4000, 5);
        x.dueOutside(great, -1, -5000, 5);
        x.dueOutside(great, 5000 + 3000, -5000 - 4001, 5);
    }

    private static void postHeights() {
        Run x = new Run();
        int s = x.make(POST, 0, 0, 2, -3, 4);
        x.dueOutside(s, 0, 0, -4);
        x.dueInside(s, 0, 0, -3);
        x.dueInside(s, 0, 0, 3);
        x.dueOutside(s, 0, 0, 4);
        int[][] empty = {{4, 4}, {4, 3}, {5000, -5000}};
        for (int[] e : empty) {
            int none = x.make(POST, 0, 0, 2, e[0], e[1]);
            x.dueSolids("an empty post", none);
            x.dueSpans(none, 0, 0, 0);
            x.dueTop(none, 0, 0, 0);
            for (int z = 2; z <= 5; z++) {
                x.dueOutside(none, 0, 0, z);
            }
        }
        int thin = x.make(POST, 0, 0, 2, 4, 5);
        x.dueSpans(thin, 2, 0, 1);
        x.dueSpan(0, 4, 4);
    }

    private static void ballRim() {
        Run x = new Run();
        int s = x.make(BALL, 10, 20, 30, 9);
        int[][] rim = {{9, 0, 0}, {0, 9, 0}, {0, 0, 9}, {1, 4, 8}, {8, 1, 4}, {4, 8, 1}, {4, 4, 7}, {3, 6, 6}};
        for (int[] p : rim) {
            x.dueInside(s, 10 + p[0], 20 + p[1], 30 + p[2]);
            x.dueInside(s, 10 - p[0], 20 - p[1], 30 - p[2]);
            x.dueOutside(s, 10 + p[0] + 1, 20 + p[1], 30 + p[2]);
            x.dueOutside(s, 10 - p[0], 20 - p[1] - 1, 30 - p[2]);
            x.dueOutside(s, 10 - p[0], 20 + p[1], 30 - p[2] - 1);
            x.dueOutside(s, 10 - p[0], 20 + p[1], 30 + p[2] + 1);
        }
        // The squares' sum is 82: just above the square of 9.
        x.dueOutside(s, 10 + 9, 20 + 1, 30);
        x.dueOutside(s, 10, 20 + 1, 30 + 9);
        x.dueSpans(s, 10 + 9, 20, 1);
        x.dueSpan(0, 30, 30);
        x.dueSpans(s, 10 + 9, 20 + 1, 0);
        int great = x.make(BALL, -5000, 5000, -5000, 5000);
        x.dueSpans(great, -5000, 5000, 1);
        x.dueSpan(0, -10000, 0);
        x.dueSpans(great, -5000 + 3000, 5000, 1);
        x.dueSpan(0, -9000, -1000);
        x.dueSpans(great, 0, 5000, 1);
        x.dueSpan(0, -5000, -5000);
        x.dueSpans(great, 0, 5001, 0);
    }

    private static void coneRim() {
        Run x = new Run();
        // At z the reach is half of what is left to the end: 5 at 0, 4 at 2, .. 1 at 8.
        int s = x.make(CONE, 100, 200, 5, 0, 10);
        for (int reach = 1; reach <= 5; reach++) {
            int z = 10 - 2 * reach;
            x.dueInside(s, 100 + reach, 200, z);
            x.dueInside(s, 100, 200 - reach, z);
            x.dueOutside(s, 100 + reach, 200, z + 1);
            x.dueOutside(s, 100 + reach + 1, 200, z);
            x.dueOutside(s, 100 - reach, 200 + 1, z);
            x.dueSpans(s, 100 - reach, 200, 1);
            x.dueSpan(0, 0, z);
        }
        x.dueInside(s, 100 + 3, 200 + 4, 0);
        x.dueOutside(s, 100 + 3, 200 + 4, 1);
        x.dueOutside(s, 100 + 5, 200 + 1, 0);
        int great = x.make(CONE, -5000, -5000, 5000, -5000, 5000);
        x.dueInside(great, 0, -5000, -5000);
        x.dueOutside(great, 0, -5000, -4999);
        x.dueOutside(great, 1, -5000, -5000);
        x.dueInside(great, -4999, -5000, 4998);
        x.dueOutside(great, -4999, -5000, 4999);
        x.dueInside(great, -2000, -1000, -5000);
        x.dueOutside(great, -2000, -1000, -4999);
    }

    private static void coneHeights() {
        Run x = new Run();
        int s = x.make(CONE, 0, 0, 5, -3, 4);
        x.dueOutside(s, 0, 0, -4);
        x.dueInside(s, 0, 0, -3);
        x.dueInside(s, 0, 0, 3);
        x.dueOutside(s, 0, 0, 4);
        x.dueOutside(s, 0, 0, 5);
        x.dueOutside(s, 1, 0, 8);
        x.dueOutside(s, 1, 0, -4);
        int[][] empty = {{4, 4}, {4, 3}, {4, -20}, {5000, -5000}};
        for (int[] e : empty) {
            int none = x.make(CONE, 0, 0, 5, e[0], e[1]);
            x.dueSolids("an empty cone", none);
            x.dueSpans(none, 0, 0, 0);
            x.dueSpans(none, 5, 0, 0);
            x.dueTop(none, 0, 0, 0);
            for (int z = 2; z <= 5; z++) {
                x.dueOutside(none, 0, 0, z);
            }
        }
        int flat = x.make(CONE, 0, 0, 5, 4, 5);
        x.dueSpans(flat, 3, 4, 1);
        x.dueSpan(0, 4, 4);
        x.dueSpans(flat, 4, 4, 0);
    }

    private static void squaresThatWrap() {
        Run x = new Run();
        // The square of 65536 is 0 in an int, that of 46341 below 0.
        int[] far = {65536, -65536, 46341, -46341, BOUND, -BOUND};
        int post = x.make(POST, 0, 0, 3, 0, 10);
        int ball = x.make(BALL, 0, 0, 0, 3);
        int cone = x.make(CONE, 0, 0, 3, 0, 10);
        for (int f : far) {
            for (int s = post; s <= cone; s++) {
                x.dueOutside(s, f, 0, 0);
                x.dueOutside(s, 0, f, 0);
                x.dueOutside(s, f, f, 0);
                x.dueSpans(s, f, 0, 0);
                x.dueTop(s, 0, f, 0);
            }
            x.dueOutside(ball, 0, 0, f);
        }
    }

    private static void coneProductsThatWrap() {
        Run x = new Run();
        // 64 times the square of 8192 is 0 in an int.
        int cone = x.make(CONE, 0, 0, 8, -4000, 4192);
        x.dueInside(cone, 8, 0, -4000);
        x.dueOutside(cone, 8, 0, -3999);
        x.dueOutside(cone, 8, 0, 96);
        x.dueInside(cone, 4, 0, 96);
        x.dueOutside(cone, 4, 0, 97);
        // At 262144 both ways the squares' sum is 2^37; times the square of 8192 that is below 0 in a long.
        int far = x.moveOften(x.make(CONE, -2144, -2144, 5000, -4000, 4192), 32, -5000, -5000, 0);
        x.dueOutside(far, BOUND, BOUND, -4000);
        x.dueOutside(far, BOUND, BOUND, 0);
        x.dueTop(far, BOUND, BOUND, 0);
        x.dueSpans(far, BOUND, BOUND, 0);
    }

    private static void radiusZero() {
        Run x = new Run();
        int[] solids = {x.make(POST, 3, 4, 0, 10, 12), x.make(BALL, 3, 4, 10, 0), x.make(CONE, 3, 4, 0, 10, 12)};
        int[] lasts = {11, 10, 11};
        for (int i = 0; i < solids.length; i++) {
            due("a solid with r 0", solids[i], i + 1);
            x.dueSpans(solids[i], 3, 4, 1);
            x.dueSpan(0, 10, lasts[i]);
            x.dueOutside(solids[i], 3, 4, 9);
            x.dueInside(solids[i], 3, 4, 10);
            x.dueOutside(solids[i], 3, 4, lasts[i] + 1);
            x.dueOutside(solids[i], 2, 4, 10);
            x.dueOutside(solids[i], 4, 4, 10);
            x.dueOutside(solids[i], 3, 3, 10);
            x.dueOutside(solids[i], 3, 5, 10);
        }
    }

    private static void joinsOfTwo() {
        Run x = new Run();
        int first = x.column(0, 10);
        int second = x.column(5, 15);
        int none = x.column(9, 9);
        // Each row: the first z and the last of what is left, for the hows 0, 1 and 2; 0 and -1 where nothing is.
        int[][] both = {{0, 14}, {5, 9}, {0, 4}};
        int[][] otherWay = {{0, 14}, {5, 9}, {10, 14}};
        int[][] withNone = {{0, 9}, {0, -1}, {0, 9}};
        int[][] noneWith = {{0, 9}, {0, -1}, {0, -1}};
        int[][] withItself = {{0, 9}, {0, 9}, {0, -1}};
        for (int how = OR; how <= WITHOUT; how++) {
            dueColumn(x, x.join(first, second, how), both[how]);
            dueColumn(x, x.join(second, first, how), otherWay[how]);
            dueColumn(x, x.join(first, none, how), withNone[how]);
            dueColumn(x, x.join(none, first, how), noneWith[how]);
            dueColumn(x, x.join(first, first, how), withItself[how]);
        }
    }

    /** Parts that have no points over the place: each how still has two sets to join. */
    private static void joinsWithNothingOverThePlace() {
        Run x = new Run();
        int column = x.column(0, 10);
        int[] beside = {x.make(BOX, 5, 0, 0, 9, 9, 10), x.make(POST, 9, 9, 3, 0, 10), x.make(BALL, 9, 9, 5, 3),
            x.make(CONE, 9, 9, 3, 0, 10)};
        for (int none : beside) {
            dueColumn(x, x.join(column, none, OR), new int[] {0, 9});
            dueColumn(x, x.join(none, column, OR), new int[] {0, 9});
            dueColumn(x, x.join(column, none, AND), new int[] {0, -1});
            dueColumn(x, x.join(none, column, AND), new int[] {0, -1});
            dueColumn(x, x.join(column, none, WITHOUT), new int[] {0, 9});
            dueColumn(x, x.join(none, column, WITHOUT), new int[] {0, -1});
            dueColumn(x, x.join(none, none, OR), new int[] {0, -1});
        }
    }

    private static void dueColumn(Run x, int s, int[] ends) {
        boolean empty = ends[1] < ends[0];
        x.dueSpans(s, 2, 2, empty ? 0 : 1);
        x.dueSpan(0, ends[0], empty ? 0 : ends[1]);
        x.dueWithin(LEAST, MOST, ends[1] - ends[0] + 1);
    }

    private static void movedByThreeSizes() {
        Run x = new Run();
        int point = x.make(BALL, 1, 2, 3, 0);
        int[][] sizes = {{5000, 0, 0}, {0, 5000, 0}, {0, 0, 5000}, {-5000, 0, 0}, {0, -5000, 0}, {0, 0, -5000},
            {1, 20, 300}, {0, 0, 0}};
        for (int[] by : sizes) {
            int s = x.move(point, by[0], by[1], by[2]);
            x.dueInside(s, 1 + by[0], 2 + by[1], 3 + by[2]);
            x.dueSpans(s, 1 + by[0], 2 + by[1], 1);
            x.dueSpan(0, 3 + by[2], 3 + by[2]);
            if (by[0] != 0 || by[1] != 0 || by[2] != 0) {
                x.dueOutside(s, 1, 2, 3);
                x.dueOutside(s, 1 - by[0], 2 - by[1], 3 - by[2]);
            }
        }
        // What is moved again may come farther than any one size.
        int far = x.moveOften(point, 3, 5000, -5000, 5000);
        x.dueInside(far, 15001, 2 - 15000, 15003);
        x.dueInside(point, 1, 2, 3);
    }

    private static void movedKinds() {
        Run x = new Run();
        int[] kinds = {x.make(BOX, 0, 0, 0, 5, 6, 7), x.make(POST, 3, 4, 2, 0, 7), x.make(BALL, 3, 4, 3, 3),
            x.make(CONE, 3, 4, 3, 0, 7)};
        for (int s : kinds) {
            x.dueSpans(s, 3, 4, 1);
            x.dueSpan(0, 0, 6);
            x.dueSpans(x.move(s, 5000, -5000, 5000), 5003, -4996, 1);
            x.dueSpan(0, 5000, 5006);
            x.dueSpans(x.move(s, -5000, 5000, -5000), -4997, 5004, 1);
            x.dueSpan(0, -5000, -4994);
        }
    }

    private static void turnedPoints() {
        Run x = new Run();
        int[][] points = {{3, 7, -2}, {5, 0, 1}, {0, 5, 1}, {-4, 0, 1}, {0, -4, 1}, {0, 0, 8}};
        for (int[] p : points) {
            int s = x.make(BALL, p[0], p[1], p[2], 0);
            int once = x.turned(s);
            int twice = x.turned(once);
            int thrice = x.turned(twice);
            x.dueInside(once, -p[1], p[0], p[2]);
            x.dueInside(twice, -p[0], -p[1], p[2]);
            x.dueInside(thrice, p[1], -p[0], p[2]);
            x.dueInside(x.turned(thrice), p[0], p[1], p[2]);
            if (p[0] != 0 || p[1] != 0) {
                x.dueOutside(once, p[1], -p[0], p[2]);
                x.dueOutside(once, p[0], p[1], p[2]);
            }
        }
        int end = x.make(BOX, 4, 6, 0, 9, 8, 1);
        int turned = x.turned(end);
        x.dueInside(turned, -6, 4, 0);
        x.dueInside(turned, -7, 8, 0);
        x.dueOutside(turned, -5, 4, 0);
        x.dueOutside(turned, -8, 4, 0);
        x.dueOutside(turned, -6, 3, 0);
        x.dueOutside(turned, -6, 9, 0);
    }

    /** A box whose points are 5000 and less from a place at the bound, and some beyond it. */
    private static Run boxAt(int sideX, int sideY, int sideZ) {
        Run x = new Run();
        int box = x.make(BOX, -5000, -5000, -5000, 5000, 5000, 5000);
        x.moveOften(box, 20, 5000 * sideX, 5000 * sideY, 5000 * sideZ);
        return x;
    }

    private static void pointsInTheBound() {
        int last = 21;
        for (int side = -1; side <= 1; side += 2) {
            int at = side * BOUND;
            Run x = boxAt(side, 0, 0);
            x.dueInside(last, at, 0, 0);
            x.dueOutside(last, at + side, 0, 0);
            x.dueOutside(last, at + 4000 * side, 0, 0);
            x = boxAt(0, side, 0);
            x.dueInside(last, 0, at, 0);
            x.dueOutside(last, 0, at + side, 0);
            x.dueOutside(last, 0, at + 4000 * side, 0);
            x = boxAt(0, 0, side);
            x.dueInside(last, 0, 0, at);
            x.dueOutside(last, 0, 0, at + side);
            x.dueOutside(last, 0, 0, at + 4000 * side);
            x = boxAt(side, side, side);
            x.dueInside(last, at, at, at);
            x.dueOutside(last, at + side, at, at);
            x.dueOutside(last, at, at + side, at);
            x.dueOutside(last, at, at, at + side);
        }
        Run x = oneBox();
        int[] wild = {LEAST, LEAST + 1, MOST, MOST - 1, 1 << 30, BOUND + 1, -BOUND - 1};
        for (int v : wild) {
            x.dueOutside(1, v, 0, 0);
            x.dueOutside(1, 0, v, 0);
            x.dueOutside(1, 0, 0, v);
            x.dueOutside(1, v, v, v);
        }
    }

    private static void boundOfWhatIsAskedFor() {
        // Out over the bound by 110000 and back again: only the point that is asked for has the bound.
        int[][] ways = {{5000, 0, 0}, {0, -5000, 0}, {0, 0, 5000}, {-5000, 5000, -5000}};
        for (int[] way : ways) {
            Run x = oneBox();
            int out = x.moveOften(1, 22, way[0], way[1], way[2]);
            int back = x.moveOften(out, 22, -way[0], -way[1], -way[2]);
            x.dueInside(back, 5, 5, 5);
            x.dueTop(back, 5, 5, 10);
            x.dueSpans(back, 5, 5, 1);
        }
    }

    private static void weightOfKinds() {
        Run x = new Run();
        int box = x.make(BOX, 0, 0, 0, 1, 1, 1);
        int post = x.make(POST, 0, 0, 1, 0, 1);
        int ball = x.make(BALL, 0, 0, 0, 1);
        int cone = x.make(CONE, 0, 0, 1, 0, 1);
        for (int s = box; s <= cone; s++) {
            due("weight of kind " + (s - 1), x.weight(s), 1);
        }
        int moved = x.move(box, 0, 0, 0);
        due("weight of a moved one", x.weight(moved), 2);
        int turned = x.turned(moved);
        due("weight of a turned one", x.weight(turned), 3);
        for (int how = OR; how <= WITHOUT; how++) {
            due("weight of a join by " + how, x.weight(x.join(post, ball, how)), 3);
            due("weight of a join by " + how, x.weight(x.join(turned, moved, how)), 6);
            due("weight of a join with itself by " + how, x.weight(x.join(turned, turned, how)), 7);
        }
        due("weight of what was joined", x.weight(turned), 3);
    }

    private static void weightAtMost100() {
        Run x = withWeights();
        int full = x.turned(50);
        due("weight of 99 turned", x.weight(full), 100);
        due("weight of 99 moved", x.weight(x.move(50, 1, 1, 1)), 100);
        int fifty = x.turned(25);
        due("weight of 49 and 50", x.weight(x.join(25, fifty, AND)), 100);
        due("weight of 50 and 49", x.weight(x.join(fifty, 25, WITHOUT)), 100);
        int count = 55;
        x.dueSolids("those of weight 100", count);
        due("turned(100)", x.turned(full), -1);
        due("moved(100)", x.move(full, 1, 1, 1), -1);
        due("join(50, 50)", x.join(fifty, fifty, OR), -1);
        due("join(49, 51)", x.join(25, 26, OR), -1);
        due("join(51, 49)", x.join(26, 25, OR), -1);
        due("join(99, 1)", x.join(50, 1, OR), -1);
        due("join(1, 99)", x.join(1, 50, OR), -1);
        due("join(100, 100)", x.join(full, full, OR), -1);
        x.dueSolids("those of too much weight", count);
        due("turned(1) after what was refused", x.turned(1), count + 1);
        x.dueInside(full, 0, 0, 5);
    }

    private static void longestRows() {
        Run x = new Run();
        int low = x.column(0, 10);
        int touching = x.column(10, 20);
        int oneApart = x.column(11, 20);
        int over = x.column(5, 15);
        for (int order = 0; order < 2; order++) {
            x.dueSpans(order == 0 ? x.join(low, touching, OR) : x.join(touching, low, OR), 0, 0, 1);
            x.dueSpan(0, 0, 19);
            x.dueSpans(order == 0 ? x.join(low, oneApart, OR) : x.join(oneApart, low, OR), 0, 0, 2);
            x.dueSpan(0, 0, 9);
            x.dueSpan(1, 11, 19);
            x.dueSpans(order == 0 ? x.join(low, over, OR) : x.join(over, low, OR), 0, 0, 1);
            x.dueSpan(0, 0, 14);
        }
        int cut = x.join(low, x.floor(5), WITHOUT);
        x.dueSpans(cut, 0, 0, 2);
        x.dueSpan(0, 0, 4);
        x.dueSpan(1, 6, 9);
        x.dueSpans(x.join(cut, x.floor(5), OR), 0, 0, 1);
        x.dueSpan(0, 0, 9);
        x.dueSpans(x.join(low, x.floor(0), WITHOUT), 0, 0, 1);
        x.dueSpan(0, 1, 9);
        x.dueSpans(x.join(low, x.floor(9), WITHOUT), 0, 0, 1);
        x.dueSpan(0, 0, 8);
        x.dueSpans(x.join(low, touching, AND), 0, 0, 0);
        x.dueSpans(x.join(low, touching, WITHOUT), 0, 0, 1);
        x.dueSpan(0, 0, 9);
    }

    /** 25 floors have the weight 49, the same moved 50, and both joined 100: more spans there can't be. */
    private static void mostSpans() {
        for (int order = 0; order < 2; order++) {
            Run x = new Run();
            int all = x.floor(0);
            for (int i = 1; i < 25; i++) {
                all = order == 0 ? x.join(x.floor(2 * i), all, OR) : x.join(all, x.floor(2 * i), OR);
            }
            int up = x.move(all, 0, 0, 100);
            int both = order == 0 ? x.join(up, all, OR) : x.join(all, up, OR);
            due("weight of 50 floors", x.weight(both), 100);
            x.dueSpans(both, 0, 0, 50);
            for (int k = 0; k < 50; k++) {
                int z = k < 25 ? 2 * k : 100 + 2 * (k - 25);
                x.dueSpan(k, z, z);
            }
            x.dueSpan(50, 0, 0);
            x.dueTop(both, 4, 4, 149);
            x.dueWithin(LEAST, MOST, 50);
            x.dueInside(both, 4, 4, 148);
            x.dueOutside(both, 4, 4, 147);
        }
    }

    /** Each join takes what the one before it has from the box: all of it, or nothing. */
    private static void deepestJoins() {
        Run x = oneBox();
        for (int k = 2; k <= 50; k++) {
            due("join " + k, x.join(1, k - 1, WITHOUT), k);
        }
        due("turned(49)", x.turned(49), 51);
        for (int s = 40; s <= 50; s++) {
            x.dueSpans(s, 0, 0, s % 2);
            x.dueTop(s, 9, 9, s % 2 == 0 ? 0 : 10);
        }
        x.dueInside(51, -9, 0, 9);
        x.dueOutside(51, 9, 9, 9);
    }

    private static void spansWithoutTheBound() {
        Run x = boxAt(0, 0, 1);
        x.dueSpans(21, 0, 0, 1);
        x.dueSpan(0, 95000, 104999);
        x.dueWithin(BOUND + 1, MOST, 4999);
        x.dueWithin(LEAST, BOUND, 5001);
        x = boxAt(0, 0, -1);
        x.dueSpans(21, 0, 0, 1);
        x.dueSpan(0, -105000, -95001);
        x.dueWithin(LEAST, -BOUND - 1, 5000);
        x = oneBox();
        int up = x.moveOften(1, 58, 0, 0, 5000);
        x.dueSpans(up, 0, 0, 1);
        x.dueSpan(0, 290000, 290009);
        x.dueOutside(up, 0, 0, 290005);
        x = oneBox();
        int down = x.moveOften(1, 58, 0, 0, -5000);
        x.dueSpans(down, 0, 0, 1);
        x.dueSpan(0, -290000, -289991);
    }

    private static void spansRising() {
        Run x = new Run();
        int[] heights = {30, -20, 50, 0, -40};
        int all = x.floor(10);
        for (int z : heights) {
            all = x.join(all, x.floor(z), OR);
        }
        int[] rising = {-40, -20, 0, 10, 30, 50};
        x.dueSpans(all, 0, 0, rising.length);
        for (int k = 0; k < rising.length; k++) {
            x.dueSpan(k, rising[k], rising[k]);
        }
    }

    private static void topFrom0To999() {
        int[][] columns = {
            {-5, -1, 0}, {-5, 0, 0}, {-5, 1, 1}, {0, 1, 1}, {-1, 0, 0}, {1, 2, 2}, {0, 999, 999}, {998, 999, 999},
            {0, 1000, 1000}, {999, 1000, 1000}, {0, 1001, 1000}, {999, 1001, 1000}, {1000, 1001, 0}, {1000, 5000, 0},
            {-5000, 5000, 1000}, {-5000, 0, 0}, {999, 5000, 1000}};
        Run x = new Run();
        for (int[] c : columns) {
            x.dueTop(x.column(c[0], c[1]), 4, 4, c[2]);
        }
        int ball = x.make(BALL, 0, 0, 1000, 1);
        x.dueTop(ball, 0, 0, 1000);
        x.dueTop(ball, 1, 0, 0);
    }

    private static void topOfMore() {
        Run x = new Run();
        int low = x.column(-10, 3);
        int middle = x.column(400, 500);
        int high = x.column(1000, 2000);
        int under = x.column(-30, -20);
        x.dueTop(x.join(high, low, OR), 0, 0, 3);
        x.dueTop(x.join(under, high, OR), 0, 0, 0);
        x.dueTop(x.join(middle, low, OR), 0, 0, 500);
        x.dueTop(x.join(x.join(middle, high, OR), under, OR), 0, 0, 500);
        x.dueTop(x.join(x.column(0, 1000), x.floor(999), WITHOUT), 0, 0, 999);
    }

    private static void topOfNone() {
        Run x = new Run();
        int box = x.make(BOX, 2, 3, 10, 7, 9, 20);
        int[][] beside = {{1, 5}, {7, 5}, {5, 2}, {5, 9}, {BOUND, BOUND}, {-BOUND, 5}};
        for (int[] p : beside) {
            x.dueTop(box, p[0], p[1], 0);
        }
        x.dueTop(box, 2, 3, 20);
        x.dueTop(x.join(box, box, WITHOUT), 5, 5, 0);
        x.dueTop(x.make(BOX, 2, 3, 10, 7, 9, 10), 5, 5, 0);
    }

    // Promise 1: A new object.

    private static void noSolids() {
        Run x = new Run();
        for (int s = -1; s <= MOST_SOLIDS + 1; s++) {
            due("weight(" + s + ")", x.weight(s), -1);
            x.dueOutside(s, 0, 0, 0);
            x.dueTop(s, 0, 0, -1);
            x.dueSpans(s, 0, 0, -1);
            due("turned(" + s + ")", x.turned(s), -1);
            due("join(" + s + ", " + s + ", 0)", x.join(s, s, OR), -1);
        }
        due("moved(1)", x.move(1, 0, 0, 0), -1);
        due("the first solid", x.make(BALL, 0, 0, 0, 1), 1);
    }

    private static void newObjectIsEmpty() {
        due("the first size of a new object", new Run().size(0), 1);
        Run x = new Run();
        x.dueSpan(0, 0, 0);
        x.dueWithin(LEAST, MOST, 0);
        for (int kind = BOX; kind <= CONE; kind++) {
            due("solid(" + kind + ") without sizes", x.solid(kind), -1);
        }
        due("the first size", x.size(0), 1);
        Run other = oneBox();
        other.spans(1, 0, 0);
        other.size(3);
        due("weight(1) of a new object beside another", x.weight(1), -1);
        x.dueWithin(LEAST, MOST, 0);
        due("the second size beside another object", x.size(0), 2);
    }

    // Promise 2: size.

    private static void howManySizes() {
        Run x = new Run();
        for (int round = 0; round < 2; round++) {
            for (int i = 1; i <= 6; i++) {
                due("size " + i, x.size(i == 6 ? 9 : 0), i);
            }
            due("solid(0)", x.solid(BOX), round + 1);
        }
    }

    private static void sizeNotFrom5000To5000() {
        Run x = new Run();
        int[] wrongSizes = {5001, -5001, 10000, -10000, 65536, -65536, MOST, LEAST, LEAST + 1, LEAST + 5000};
        int[] rightSizes = {-5000, 5000, -4999, 4999, 0, -1};
        for (int i = 0; i < rightSizes.length; i++) {
            for (int v : wrongSizes) {
                due("size(" + v + ")", x.size(v), -1);
            }
            due("size(" + rightSizes[i] + ")", x.size(rightSizes[i]), i + 1);
        }
        x.solid(BOX);
        x.make(BALL, -5000, 5000, -5000, 5000);
        x.dueInside(2, -5000, 5000, -10000);
        x.dueInside(2, -5000, 10000, -5000);
        x.dueOutside(2, -5000, 10001, -5000);
    }

    private static void sizeWhenThereAreSix() {
        Run x = new Run();
        x.sizes(1, 2, 3, 14, 15, 16);
        int[] more = {0, 5, -5000, 5000, 5001, MOST};
        for (int v : more) {
            due("size(" + v + ") when there are 6", x.size(v), -1);
        }
        due("solid(0)", x.solid(BOX), 1);
        x.dueInside(1, 1, 2, 3);
        x.dueInside(1, 13, 14, 15);
        x.dueOutside(1, 0, 2, 3);
        x.dueOutside(1, 13, 14, 16);
        due("the next size", x.size(0), 1);
    }

    private static void noSizeAddedByARefusedOne() {
        Run x = new Run();
        x.sizes(0, 0, 5001, 0, -5001, 2);
        due("solid(2) of four sizes among refused ones", x.solid(BALL), 1);
        x.dueInside(1, 2, 0, 0);
        x.dueOutside(1, 3, 0, 0);
    }

    // Promise 3: solid.

    private static void solidUsesUpItsSizes() {
        Run x = new Run();
        due("solid(2)", x.make(BALL, 0, 0, 0, 1), 1);
        x.dueNoSizes("a solid");
        due("too few", x.make(BALL, 0, 0, 0), -1);
        x.dueNoSizes("too few sizes");
        due("too many", x.make(BALL, 0, 0, 0, 1, 1), -1);
        x.dueNoSizes("too many sizes");
        due("six", x.make(POST, 0, 0, 0, 1, 1, 1), -1);
        x.dueNoSizes("six sizes");
        due("no kind", x.make(4, 0, 0, 0, 1), -1);
        x.dueNoSizes("no kind");
        due("r below 0", x.make(BALL, 0, 0, 0, -1), -1);
        x.dueNoSizes("r below 0");
        x = withSolids(MOST_SOLIDS);
        due("there are 60", x.make(BALL, 0, 0, 0, 1), -2);
        x.dueNoSizes("60 solids");
    }

    private static void justAsManySizes() {
        int[] needed = {6, 5, 4, 5};
        for (int kind = BOX; kind <= CONE; kind++) {
            Run x = new Run();
            int made = 0;
            for (int count = 0; count <= 6; count++) {
                for (int i = 0; i < count; i++) {
                    x.size(i);
                }
                made += count == needed[kind] ? 1 : 0;
                due("solid(" + kind + ") of " + count, x.solid(kind), count == needed[kind] ? made : -1);
            }
            x.dueSolids("all counts of sizes", 1);
        }
    }

    private static void noKind() {
        Run x = new Run();
        int[] kinds = {-1, 4, 5, -4, 256, 65536, MOST, LEAST, LEAST + 1};
        for (int kind : kinds) {
            for (int count = 0; count <= 6; count++) {
                for (int i = 0; i < count; i++) {
                    x.size(1);
                }
                due("solid(" + kind + ") of " + count, x.solid(kind), -1);
            }
        }
        x.dueSolids("no kind", 0);
    }

    private static void radiusBelowZero() {
        Run x = new Run();
        int[] radii = {-1, -2, -4999, -5000};
        for (int r : radii) {
            due("post of r " + r, x.make(POST, 0, 0, r, 0, 9), -1);
            due("ball of r " + r, x.make(BALL, 0, 0, 0, r), -1);
            due("cone of r " + r, x.make(CONE, 0, 0, r, 0, 9), -1);
        }
        x.dueSolids("r below 0", 0);
        due("post of r 0, all else below 0", x.make(POST, -1, -2, 0, -9, -3), 1);
        due("ball of r 0, all else below 0", x.make(BALL, -1, -2, -3, 0), 2);
        due("cone of r 0, all else below 0", x.make(CONE, -1, -2, 0, -9, -3), 3);
        due("box, all below 0", x.make(BOX, -9, -9, -9, -1, -1, -1), 4);
        x.dueInside(1, -1, -2, -4);
        x.dueInside(2, -1, -2, -3);
        x.dueInside(3, -1, -2, -4);
        x.dueInside(4, -2, -2, -2);
    }

    private static void solidWhenThereAre60() {
        Run x = withSolids(MOST_SOLIDS - 1);
        due("the 60th", x.make(POST, 0, 0, 3, 0, 4), MOST_SOLIDS);
        due("box", x.make(BOX, 0, 0, 0, 1, 1, 1), -2);
        due("post", x.make(POST, 0, 0, 1, 0, 1), -2);
        due("ball", x.make(BALL, 0, 0, 0, 1), -2);
        due("cone", x.make(CONE, 0, 0, 1, 0, 1), -2);
        x.dueSolids("solids when there are 60", MOST_SOLIDS);
        x.dueInside(MOST_SOLIDS, 3, 0, 3);
        x.dueOutside(MOST_SOLIDS, 0, 0, 4);
    }

    // Promise 4: join.

    private static void joinOfNoSuchSolids() {
        Run x = withSolids(3);
        for (int none : noneOf(3)) {
            due("join(" + none + ", 1, 0)", x.join(none, 1, OR), -1);
            due("join(3, " + none + ", 1)", x.join(3, none, AND), -1);
            due("join(" + none + ", " + none + ", 2)", x.join(none, none, WITHOUT), -1);
        }
        x.dueSolids("joins of none", 3);
        due("join(1, 3, 0)", x.join(1, 3, OR), 4);
        due("join(4, 4, 0), the newest", x.join(4, 4, OR), 5);
    }

    private static void joinByNoSuchHow() {
        Run x = withSolids(2);
        int[] hows = {-1, 3, 4, -2, 256, 65536, MOST, LEAST, LEAST + 1};
        for (int how : hows) {
            due("join(1, 2, " + how + ")", x.join(1, 2, how), -1);
        }
        x.dueSolids("joins by none", 2);
        for (int how = OR; how <= WITHOUT; how++) {
            due("join(1, 2, " + how + ")", x.join(1, 2, how), 3 + how);
        }
    }

    private static void joinOfTooMuchWeight() {
        Run x = withWeights();
        for (int how = OR; how <= WITHOUT; how++) {
            due("join of 49 and 51 by " + how, x.join(25, 26, how), -1);
            due("join of 99 and 99 by " + how, x.join(50, 50, how), -1);
            due("join of 99 and 1 by " + how, x.join(50, 1, how), -1);
        }
        x.dueSolids("joins of too much weight", 50);
        due("join of 49 and 49", x.join(25, 25, OR), 51);
        int two = x.turned(1);
        due("join of 97 and 2", x.join(49, two, OR), 53);
        due("its weight", x.weight(53), 100);
        due("join of 97 and 3", x.join(49, 2, OR), -1);
    }

    private static void joinWhenThereAre60() {
        Run x = withSolids(MOST_SOLIDS - 1);
        due("the 60th", x.join(1, 59, OR), MOST_SOLIDS);
        for (int how = OR; how <= WITHOUT; how++) {
            due("join(1, 60, " + how + ")", x.join(1, MOST_SOLIDS, how), -2);
        }
        x.dueSolids("joins when there are 60", MOST_SOLIDS);
        due("weight(60)", x.weight(MOST_SOLIDS), 4);
    }

    private static void joinLeavesTheSizes() {
        Run x = withSolids(2);
        x.sizes(0, 0, 0);
        x.join(1, 2, OR);
        x.join(1, 9, OR);
        due("the fourth size", x.size(1), 4);
        due("solid(2)", x.solid(BALL), 4);
    }

    // Promise 5: moved.

    private static void movedUsesUpItsSizes() {
        Run x = withWeights();
        due("moved(1)", x.move(1, 1, 1, 1), 51);
        x.dueNoSizes("a moved one");
        due("none such", x.move(52, 1, 1, 1), -1);
        x.dueNoSizes("no such solid");
        x.sizes(1, 1);
        due("two sizes", x.moved(1), -1);
        x.dueNoSizes("two sizes");
        x.sizes(1, 1, 1, 1);
        due("four sizes", x.moved(1), -1);
        x.dueNoSizes("four sizes");
        int full = x.turned(50);
        due("too much weight", x.move(full, 1, 1, 1), -1);
        x.dueNoSizes("too much weight");
        for (int s = full + 1; s <= MOST_SOLIDS; s++) {
            due("turned(1)", x.turned(1), s);
        }
        due("there are 60", x.move(1, 1, 1, 1), -2);
        x.dueNoSizes("60 solids");
    }

    private static void movedNoSuchSolid() {
        Run x = withSolids(3);
        for (int none : noneOf(3)) {
            due("moved(" + none + ")", x.move(none, 1, 1, 1), -1);
        }
        x.dueSolids("moves of none", 3);
        due("moved(3)", x.move(3, 1, 1, 1), 4);
        due("moved(4), the newest", x.move(4, 1, 1, 1), 5);
    }

    private static void movedByJustThreeSizes() {
        Run x = oneBox();
        int made = 1;
        for (int count = 0; count <= 6; count++) {
            for (int i = 0; i < count; i++) {
                x.size(100);
            }
            made += count == 3 ? 1 : 0;
            due("moved(1) by " + count, x.moved(1), count == 3 ? made : -1);
        }
        x.dueSolids("all counts of sizes", 2);
        x.dueInside(2, 100, 100, 100);
        x.dueOutside(2, 0, 0, 0);
    }

    private static void movedTooMuchWeight() {
        Run x = withWeights();
        due("moved of 99", x.move(50, 1, 1, 1), 51);
        due("its weight", x.weight(51), 100);
        due("moved of 100", x.move(51, 1, 1, 1), -1);
        due("moved of 100 by nothing", x.move(51, 0, 0, 0), -1);
        x.dueSolids("moves of too much weight", 51);
        x.dueInside(51, 1, 1, 1);
    }

    private static void movedWhenThereAre60() {
        Run x = withSolids(MOST_SOLIDS - 1);
        due("the 60th", x.move(1, 100, 0, 0), MOST_SOLIDS);
        due("moved(1)", x.move(1, 0, 0, 0), -2);
        due("moved(60)", x.move(MOST_SOLIDS, 0, 0, 0), -2);
        x.dueSolids("moves when there are 60", MOST_SOLIDS);
        x.dueInside(MOST_SOLIDS, 100, 0, 0);
    }

    // Promise 6: turned.

    private static void turnedNoSuchSolid() {
        Run x = withSolids(3);
        for (int none : noneOf(3)) {
            due("turned(" + none + ")", x.turned(none), -1);
        }
        x.dueSolids("turns of none", 3);
        due("turned(3)", x.turned(3), 4);
        due("turned(4), the newest", x.turned(4), 5);
    }

    private static void turnedTooMuchWeight() {
        Run x = withWeights();
        due("turned of 99", x.turned(50), 51);
        due("its weight", x.weight(51), 100);
        due("turned of 100", x.turned(51), -1);
        x.dueSolids("turns of too much weight", 51);
        x.dueInside(51, 0, 0, 0);
    }

    private static void turnedWhenThereAre60() {
        Run x = withSolids(MOST_SOLIDS - 1);
        due("the 60th", x.turned(1), MOST_SOLIDS);
        due("turned(1)", x.turned(1), -2);
        due("turned(60)", x.turned(MOST_SOLIDS), -2);
        x.dueSolids("turns when there are 60", MOST_SOLIDS);
        x.dueInside(MOST_SOLIDS, -9, 0, 0);
    }

    private static void turnedLeavesTheSizes() {
        Run x = oneBox();
        x.sizes(0, 0, 0);
        x.turned(1);
        x.turned(9);
        due("the fourth size", x.size(1), 4);
        due("solid(2)", x.solid(BALL), 3);
    }

    // Promise 7: weight.

    private static void weightOfNone() {
        Run x = withSolids(3);
        for (int none : noneOf(3)) {
            due("weight(" + none + ")", x.weight(none), -1);
        }
        due("weight(3)", x.weight(3), 2);
        Run full = withSolids(MOST_SOLIDS);
        for (int none : noneOf(MOST_SOLIDS)) {
            due("weight(" + none + ") of 60", full.weight(none), -1);
        }
        due("weight(60)", full.weight(MOST_SOLIDS), 2);
        due("weight(1)", full.weight(1), 1);
    }

    // Promise 8: inside.

    private static void insideOfNone() {
        Run x = withSolids(3);
        for (int none : noneOf(3)) {
            x.dueOutside(none, 0, 0, 0);
        }
        x.dueInside(3, 0, 0, 0);
        Run full = withSolids(MOST_SOLIDS);
        for (int none : noneOf(MOST_SOLIDS)) {
            full.dueOutside(none, 0, 0, 0);
        }
        full.dueInside(MOST_SOLIDS, 0, 0, 0);
    }

    // Promise 9: top.

    private static void topOfNoSuchSolid() {
        Run x = withSolids(3);
        for (int none : noneOf(3)) {
            x.dueTop(none, 0, 0, -1);
            x.dueTop(none, BOUND + 1, LEAST, -1);
        }
        x.dueTop(3, 0, 0, 10);
        Run full = withSolids(MOST_SOLIDS);
        for (int none : noneOf(MOST_SOLIDS)) {
            full.dueTop(none, 0, 0, -1);
        }
        full.dueTop(MOST_SOLIDS, 0, 0, 10);
    }

    private static void topBeyondTheBound() {
        for (int side = -1; side <= 1; side += 2) {
            int at = side * BOUND;
            Run x = boxAt(side, side, 0);
            x.dueTop(21, at, at, 1000);
            x.dueTop(21, at + side, at, 0);
            x.dueTop(21, at, at + side, 0);
            x.dueTop(21, at + side, at + side, 0);
        }
        Run x = oneBox();
        int[] wild = {LEAST, LEAST + 1, MOST, 1 << 30};
        for (int v : wild) {
            x.dueTop(1, v, 0, 0);
            x.dueTop(1, 0, v, 0);
            x.dueTop(1, v, v, 0);
        }
    }

    // Promise 10: spans.

    private static void spansOfNone() {
        Run x = withSolids(3);
        for (int none : noneOf(3)) {
            x.dueSpans(none, 0, 0, -1);
            x.dueSpans(none, BOUND + 1, LEAST, -1);
        }
        x.dueSpans(3, 0, 0, 1);
        Run full = withSolids(MOST_SOLIDS);
        for (int none : noneOf(MOST_SOLIDS)) {
            full.dueSpans(none, 0, 0, -1);
        }
        full.dueSpans(MOST_SOLIDS, 0, 0, 1);
    }

    private static void spansBeyondTheBound() {
        for (int side = -1; side <= 1; side += 2) {
            int at = side * BOUND;
            Run x = boxAt(side, side, 0);
            int[][] beyond = {{at + side, at}, {at, at + side}, {at + side, at + side}, {at + 4000 * side, at}};
            for (int[] p : beyond) {
                x.dueSpans(21, at, at, 1);
                x.dueSpan(0, -5000, 4999);
                x.dueSpans(21, p[0], p[1], 0);
                x.dueSpan(0, 0, 0);
                x.dueWithin(LEAST, MOST, 0);
            }
        }
        Run x = oneBox();
        int[] wild = {LEAST, LEAST + 1, MOST, 1 << 30};
        for (int v : wild) {
            x.dueSpans(1, v, 0, 0);
            x.dueSpans(1, 0, v, 0);
            x.dueSpans(1, v, v, 0);
        }
    }

    private static void toldFromNowOn() {
        Run x = new Run();
        int low = x.column(3, 8);
        int high = x.column(20, 30);
        int both = x.join(low, high, OR);
        x.dueSpans(both, 0, 0, 2);
        x.inside(low, 0, 0, 5);
        x.top(low, 0, 0);
        x.weight(low);
        x.turned(low);
        x.join(low, high, AND);
        x.move(low, 1, 1, 1);
        x.column(50, 60);
        x.inside(low, 99, 99, 5);
        x.top(low, BOUND + 1, 0);
        x.dueSpan(0, 3, 7);
        x.dueSpan(1, 20, 29);
        x.dueWithin(LEAST, MOST, 15);
        x.dueSpans(high, 0, 0, 1);
        x.dueSpan(0, 20, 29);
        x.dueSpan(1, 0, 0);
        x.dueWithin(LEAST, MOST, 10);
        x.dueSpans(high, 5, 5, 0);
        x.dueSpan(0, 0, 0);
        x.dueWithin(LEAST, MOST, 0);
    }

    // Promise 11: span.

    private static void spanOfNone() {
        Run x = new Run();
        int two = x.join(x.column(3, 8), x.column(20, 30), OR);
        int[] none = {2, 3, -1, -2, 48, 49, 50, 100, 1 << 30, (1 << 30) + 1, 1 << 31, MOST, LEAST + 1, LEAST + 2};
        for (int k : none) {
            x.dueSpan(k, 0, 0);
        }
        x.dueSpans(two, 0, 0, 2);
        for (int k : none) {
            x.dueSpan(k, 0, 0);
        }
        x.dueSpan(0, 3, 7);
        x.dueSpan(1, 20, 29);
        x.dueSpans(1, 0, 0, 1);
        x.dueSpan(1, 0, 0);
        x.dueSpans(1, 9, 9, 0);
        x.dueSpan(0, 0, 0);
    }

    private static void spanFirstAndLast() {
        Run x = new Run();
        int one = x.floor(-5000);
        x.dueSpans(one, 0, 0, 1);
        x.dueSpan(0, -5000, -5000);
        x.dueSpans(x.column(-1, 1), 0, 0, 1);
        x.dueSpan(0, -1, 0);
        x.dueSpans(x.column(-5000, 5000), 0, 0, 1);
        x.dueSpan(0, -5000, 4999);
        x.dueSpans(x.join(x.floor(7), one, OR), 0, 0, 2);
        x.dueSpan(0, -5000, -5000);
        x.dueSpan(1, 7, 7);
    }

    // Promise 12: within.

    private static void withinOneZ() {
        Run x = new Run();
        x.spans(x.join(x.column(-5, 0), x.column(10, 20), OR), 0, 0);
        int[] in = {-5, -3, -1, 10, 15, 19};
        int[] out = {-6, 0, 5, 9, 20, LEAST, MOST, LEAST + 1, MOST - 1};
        for (int z : in) {
            x.dueWithin(z, z, 1);
        }
        for (int z : out) {
            x.dueWithin(z, z, 0);
        }
    }

    private static void withinParts() {
        Run x = new Run();
        x.spans(x.join(x.column(-5, 0), x.column(10, 20), OR), 0, 0);
        int[][] rows = {
            {-5, 19, 15}, {-6, 20, 15}, {-4, 18, 13}, {-5, -1, 5}, {10, 19, 10}, {0, 9, 0}, {-1, 10, 2}, {0, 10, 1},
            {-1, 9, 1}, {-6, -5, 1}, {19, 20, 1}, {12, 14, 3}, {-6, -6, 0}, {20, 5000, 0}, {-5000, -6, 0}};
        for (int[] row : rows) {
            x.dueWithin(row[0], row[1], row[2]);
        }
    }

    private static void withinAllThatAnIntCanTell() {
        Run x = new Run();
        x.spans(x.join(x.column(-5, 0), x.column(10, 20), OR), 0, 0);
        x.dueWithin(LEAST, MOST, 15);
        x.dueWithin(LEAST, -1, 5);
        x.dueWithin(LEAST, -5, 1);
        x.dueWithin(LEAST, -6, 0);
        x.dueWithin(0, MOST, 10);
        x.dueWithin(19, MOST, 1);
        x.dueWithin(20, MOST, 0);
        x.dueWithin(LEAST, LEAST, 0);
        x.dueWithin(MOST, MOST, 0);
    }

    private static void withinNothing() {
        Run x = oneBox();
        x.dueWithin(0, 9, 0);
        x.dueWithin(LEAST, MOST, 0);
        x.spans(1, 0, 0);
        x.dueWithin(0, 9, 10);
        x.spans(1, 10, 0);
        x.dueWithin(0, 9, 0);
        x.dueWithin(LEAST, MOST, 0);
    }

    // Where the document leaves a boundary open: what its words say most plainly (README.md lists these readings).

    private static void wrongWhenThereAre60() {
        Run x = withSolids(MOST_SOLIDS);
        due("too few sizes", x.make(BALL, 0, 0, 0), -1);
        due("no kind", x.make(4, 0, 0, 0, 1), -1);
        due("no kind, no sizes", x.solid(-1), -1);
        due("r below 0", x.make(BALL, 0, 0, 0, -1), -1);
        due("join, no such solid", x.join(1, MOST_SOLIDS + 1, OR), -1);
        due("join, no such how", x.join(1, 2, 3), -1);
        due("moved, no such solid", x.move(MOST_SOLIDS + 1, 0, 0, 0), -1);
        due("moved, no sizes", x.moved(1), -1);
        due("turned, no such solid", x.turned(0), -1);
        Run heavy = withWeights();
        int full = heavy.turned(50);
        for (int s = full + 1; s <= MOST_SOLIDS; s++) {
            heavy.turned(1);
        }
        due("join, too much weight", heavy.join(full, 1, OR), -1);
        due("moved, too much weight", heavy.move(full, 0, 0, 0), -1);
        due("turned, too much weight", heavy.turned(full), -1);
    }

    private static void toldAfterARefusedCall() {
        Run x = oneBox();
        x.dueSpans(1, 0, 0, 1);
        for (int none : noneOf(1)) {
            x.dueSpans(none, 0, 0, -1);
            x.dueSpan(0, 0, 9);
            x.dueWithin(LEAST, MOST, 10);
        }
    }

    private static void spanOfNoSuchWhat() {
        Run x = new Run();
        x.spans(x.column(3, 8), 0, 0);
        int[] whats = {2, -1, 3, 256, 65536, MOST, LEAST, LEAST + 1};
        for (int what : whats) {
            due("span(0, " + what + ")", x.span(0, what), 0);
        }
        x.dueSpan(0, 3, 7);
    }

    private static void withinWhereBIsBelowA() {
        Run x = new Run();
        x.spans(x.column(-5, 20), 0, 0);
        int[][] rows = {{0, -1}, {19, -5}, {20, -6}, {-5, -6}, {1, LEAST}, {MOST, 1}, {MOST, LEAST}};
        for (int[] row : rows) {
            x.dueWithin(row[0], row[1], 0);
        }
    }

    private static void headAndTerms() {
        holds("An object is used for at most 512 calls after it has been made", BoundaryTests::the512thCall);
        holds("SOLIDS are numbered from 1", BoundaryTests::numberedFromOne);
        holds("SOLIDS ..: at most 60 for life", BoundaryTests::sixtyForLife);
        holds("BOX: the points from x y z on, below X Y Z", BoundaryTests::boxFromAndBelow);
        holds("BOX: the points from x y z on, below X Y Z: none", BoundaryTests::emptyBox);
        holds("POST: (px - x)^2 + (py - y)^2 not above r^2", BoundaryTests::postRim);
        holds("POST: z <= pz < Z", BoundaryTests::postHeights);
        holds("BALL: the sum of the three squares not above r^2", BoundaryTests::ballRim);
        holds("CONE: D (Z - z)^2 not above r^2 (Z - pz)^2", BoundaryTests::coneRim);
        holds("CONE: z <= pz < Z", BoundaryTests::coneHeights);
        holds("POST, BALL, CONE: the squares, where an int wraps around", BoundaryTests::squaresThatWrap);
        holds("CONE: D (Z - z)^2, where an int or a long wraps around", BoundaryTests::coneProductsThatWrap);
        holds("r is 0 or more", BoundaryTests::radiusZero);
        holds("JOINS of two: 0 or, 1 and, 2 the first without the second", BoundaryTests::joinsOfTwo);
        holds("JOINS of two, of which one is empty there", BoundaryTests::joinsWithNothingOverThePlace);
        holds("MOVED: by three sizes", BoundaryTests::movedByThreeSizes);
        holds("MOVED: each kind", BoundaryTests::movedKinds);
        holds("TURNED: each point x y z goes to -y x z", BoundaryTests::turnedPoints);
        holds("Only points with x, y, z from -100000 to 100000 are in any solid", BoundaryTests::pointsInTheBound);
        holds("Only points .., when they are asked for", BoundaryTests::boundOfWhatIsAskedFor);
        holds("WEIGHT: a kind has 1, .. a join 1 more than both together", BoundaryTests::weightOfKinds);
        holds("WEIGHT: at most 100", BoundaryTests::weightAtMost100);
        holds("SPANS .. are the longest rows of z whose points are in it", BoundaryTests::longestRows);
        holds("SPANS: as many as a weight of 100 lets be", BoundaryTests::mostSpans);
        holds("SPANS of joins as deep as a weight of 100 lets them be", BoundaryTests::deepestJoins);
        holds("SPANS .. (without the bound of 100000 for z)", BoundaryTests::spansWithoutTheBound);
        holds("SPANS .., rising", BoundaryTests::spansRising);
        holds("The TOP .. with z from 0 to 999", BoundaryTests::topFrom0To999);
        holds("The TOP .. is 1 more than the greatest z of its points there", BoundaryTests::topOfMore);
        holds("The TOP .., 0 if there is none", BoundaryTests::topOfNone);
    }

    private static void promises1To6() {
        holds("1: No solids", BoundaryTests::noSolids);
        holds("1: A new object", BoundaryTests::newObjectIsEmpty);
        holds("2: One more size: how many", BoundaryTests::howManySizes);
        holds("2: -1 if it is not -5000 .. 5000", BoundaryTests::sizeNotFrom5000To5000);
        holds("2: -1 if there are 6", BoundaryTests::sizeWhenThereAreSix);
        holds("2: -1 (and none is added)", BoundaryTests::noSizeAddedByARefusedOne);
        holds("3: (used up whatever it answers)", BoundaryTests::solidUsesUpItsSizes);
        holds("3: -1 not just as many sizes", BoundaryTests::justAsManySizes);
        holds("3: -1 no kind", BoundaryTests::noKind);
        holds("3: -1 r below 0", BoundaryTests::radiusBelowZero);
        holds("3: -2 there are 60", BoundaryTests::solidWhenThereAre60);
        holds("4: -1 no such solids", BoundaryTests::joinOfNoSuchSolids);
        holds("4: -1 no such how (0 .. 2)", BoundaryTests::joinByNoSuchHow);
        holds("4: -1 too much weight", BoundaryTests::joinOfTooMuchWeight);
        holds("4: -2", BoundaryTests::joinWhenThereAre60);
        holds("4: A join of two (no size is used up)", BoundaryTests::joinLeavesTheSizes);
        holds("5: (used up whatever it answers)", BoundaryTests::movedUsesUpItsSizes);
        holds("5: -1 no such solid", BoundaryTests::movedNoSuchSolid);
        holds("5: -1 not just three sizes", BoundaryTests::movedByJustThreeSizes);
        holds("5: -1 too much weight", BoundaryTests::movedTooMuchWeight);
        holds("5: -2", BoundaryTests::movedWhenThereAre60);
        holds("6: -1 no such solid", BoundaryTests::turnedNoSuchSolid);
        holds("6: -1 too much weight", BoundaryTests::turnedTooMuchWeight);
        holds("6: -2", BoundaryTests::turnedWhenThereAre60);
        holds("6: A solid turned (no size is used up)", BoundaryTests::turnedLeavesTheSizes);
    }

    private static void promises7To12() {
        holds("7: -1 if there is none such", BoundaryTests::weightOfNone);
        holds("8: false if there is none such", BoundaryTests::insideOfNone);
        holds("9: -1 if there is no such solid", BoundaryTests::topOfNoSuchSolid);
        holds("9: The top of a solid over x y, beyond the bound", BoundaryTests::topBeyondTheBound);
        holds("10: -1 if there is none such", BoundaryTests::spansOfNone);
        holds("10: (0 beyond the bound)", BoundaryTests::spansBeyondTheBound);
        holds("10: which are told from now on", BoundaryTests::toldFromNowOn);
        holds("11: 0 if there is none", BoundaryTests::spanOfNone);
        holds("11: The first (0) or last (1) z of span k, 0 the lowest", BoundaryTests::spanFirstAndLast);
        holds("12: How many z from a to b (b not below a), where a is b", BoundaryTests::withinOneZ);
        holds("12: How many z .. are in the spans told, at their ends", BoundaryTests::withinParts);
        holds("12: How many z from a to b, where b - a wraps around", BoundaryTests::withinAllThatAnIntCanTell);
        holds("12: How many z .. in the spans told, where there are none", BoundaryTests::withinNothing);
    }

    private static void readings() {
        holds("3 to 6: -1 ..; -2, where both would fit", BoundaryTests::wrongWhenThereAre60);
        holds("10: -1 if there is none such (nothing new is told)", BoundaryTests::toldAfterARefusedCall);
        holds("11: The first (0) or last (1), where what is neither", BoundaryTests::spanOfNoSuchWhat);
        holds("12: (b not below a), where it is", BoundaryTests::withinWhereBIsBelowA);
    }

    public static void main(String[] args) {
        headAndTerms();
        promises1To6();
        promises7To12();
        readings();
        System.out.println(sentences + " sentences asked, " + wrong + " answers not as due");
        if (wrong != 0) {
            System.exit(1);
        }
    }
}
