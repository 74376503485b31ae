/** The most solids, weight, depth and spans; wild arguments; calls beyond the 512th. */
public final class LimitTests {
    private static int wrong = 0;

    private static void due(String call, long got, long want) {
        if (got != want) {
            wrong++;
            System.out.println(call + " answered " + got + ", due is " + want);
        }
    }

    private static int make(SpanSolids x, int kind, int... values) {
        for (int value : values) {
            x.size(value);
        }
        return x.solid(kind);
    }

    private static int move(SpanSolids x, int s, int byX, int byY, int byZ) {
        x.size(byX);
        x.size(byY);
        x.size(byZ);
        return x.moved(s);
    }

    /** Thirty floors apart from each other, joined from either side: 30 kinds and 29 joins. */
    private static void thirtyFloors(boolean newestFirst) {
        SpanSolids x = new SpanSolids();
        int all = 0;
        for (int i = 0; i < 30; i++) {
            int floor = make(x, 0, 0, 0, 10 * i, 5, 5, 10 * i + 1);
            all = i == 0 ? floor : newestFirst ? x.join(floor, all, 0) : x.join(all, floor, 0);
        }
        due("weight of 30 floors", x.weight(all), 59);
        due("spans of 30 floors", x.spans(all, 1, 1), 30);
        for (int k = 0; k < 30; k++) {
            due("first of " + k, x.span(k, 0), 10L * k);
            due("last of " + k, x.span(k, 1), 10L * k);
        }
        due("within 30 floors", x.within(0, 1000), 30);
        due("top of 30 floors", x.top(all, 1, 1), 291);
    }

    private static void cutSlab() {
        SpanSolids x = new SpanSolids();
        int slab = make(x, 0, -9, -9, -5000, 9, 9, 5000);
        int all = 0;
        for (int i = 0; i < 25; i++) {
            int floor = make(x, 0, -5, -5, 10 * i, 5, 5, 10 * i + 3);
            all = i == 0 ? floor : x.join(all, floor, 0);
        }
        int[] spans = {25, 25, 0};
        for (int how = 0; how <= 2; how++) {
            int both = x.join(all, all, how);
            due("weight of twice 25 floors", x.weight(both), 99);
            due("spans of twice 25 floors", x.spans(both, 0, 0), spans[how]);
        }
        int cut = x.join(slab, all, 2);
        due("weight of the cut slab", x.weight(cut), 51);
        due("spans of the cut slab", x.spans(cut, 0, 0), 26);
        due("within the cut slab", x.within(-5000, 4999), 10000 - 75);
        due("spans beside the floors", x.spans(cut, 7, 7), 1);
    }

    /** 25 floors weigh 49, the same moved 50, both joined 100: more than 50 spans there can't be. */
    private static void mostSpans() {
        SpanSolids x = new SpanSolids();
        int all = 0;
        for (int i = 0; i < 25; i++) {
            int floor = make(x, 0, -5, -5, 10 * i, 5, 5, 10 * i + 3);
            all = i == 0 ? floor : x.join(all, floor, 0);
        }
        int up = move(x, all, 0, 0, 1000);
        int both = x.join(up, all, 0);
        due("weight of 50 floors", x.weight(both), 100);
        due("spans of 50 floors", x.spans(both, 0, 0), 50);
        due("first of 50 floors", x.span(0, 0), 0);
        due("last of 50 floors", x.span(49, 1), 1242);
        due("none after", x.span(50, 1), 0);
        due("top of 50 floors", x.top(both, 0, 0), 243);
    }

    /** Fifty kinds in one solid, and a chain of 49 joins on the first or on the second side. */
    private static void mostKinds(boolean deepFirst) {
        SpanSolids x = new SpanSolids();
        make(x, 0, 0, 0, 3, 5, 5, 9);
        for (int i = 2; i <= 50; i++) {
            due("join " + i, deepFirst ? x.join(i - 1, 1, 0) : x.join(1, i - 1, 2), i);
        }
        due("weight of 50 kinds", x.weight(50), 99);
        for (int i = 49; i <= 50; i++) {
            // On the second side each join takes away all that the one before it had.
            boolean in = deepFirst || i == 49;
            due("spans of 50 kinds", x.spans(i, 0, 0), in ? 1 : 0);
            due("last of 50 kinds", x.span(0, 1), in ? 8 : 0);
        }
        due("turned", x.turned(50), 51);
        due("weight 100", x.weight(51), 100);
        due("spans of weight 100", x.spans(51, 0, 0), deepFirst ? 1 : 0);
        due("spans of weight 100", x.spans(51, 1, 0), 0);
    }

    private static void deepest() {
        SpanSolids x = new SpanSolids();
        int s = make(x, 2, 10, 20, 30, 2);
        for (int i = 0; i < 59; i++) {
            s = i % 2 == 0 ? x.turned(s) : move(x, s, 0, 0, 5000);
        }
        due("the deepest chain", s, 60);
        due("weight of the deepest chain", x.weight(60), 60);
        // 30 turns are two: 10 20 goes to -10 -20; 29 moves of 5000.
        due("spans of the deepest chain", x.spans(60, -10, -20), 1);
        due("first of the deepest chain", x.span(0, 0), 145028);
        due("last of the deepest chain", x.span(0, 1), 145032);
        due("beyond the bound", x.inside(60, -10, -20, 145030) ? 1 : 0, 0);
    }

    private static void farthest() {
        SpanSolids x = new SpanSolids();
        int s = make(x, 0, -5000, -5000, -5000, 5000, 5000, 5000);
        int up = s;
        for (int i = 0; i < 58; i++) {
            up = move(x, up, 0, 0, 5000);
        }
        due("weight of the farthest", x.weight(up), 59);
        due("spans of the farthest", x.spans(up, 0, 0), 1);
        due("last of the farthest", x.span(0, 1), 58L * 5000 + 4999);
        due("within the farthest", x.within(100001, Integer.MAX_VALUE), 10000);
    }

    private static void wildArguments() {
        int[] wild = {Integer.MIN_VALUE, Integer.MIN_VALUE + 1, -100001, -100000, -5001, -1, 0, 1, 2, 3, 4, 5, 6,
            59, 60, 61, 5000, 100000, 100001, 1 << 30, Integer.MAX_VALUE - 1, Integer.MAX_VALUE};
        for (int a : wild) {
            for (int b : wild) {
                SpanSolids x = new SpanSolids();
                for (int round = 0; round < 3; round++) {
                    callAll(x, a, b);
                    make(x, round, 0, 0, 5, 5, 5, 9);
                    make(x, 3, 0, 0, 5, 5, 5);
                }
            }
        }
    }

    private static void callAll(SpanSolids x, int a, int b) {
        x.size(a);
        x.solid(b);
        x.join(a, b, 0);
        x.join(1, b, a);
        x.moved(a);
        x.turned(b);
        x.weight(a);
        x.inside(a, b, a, b);
        x.inside(1, a, b, a);
        x.top(a, b, b);
        x.top(1, a, b);
        x.spans(1, a, b);
        x.span(a, b);
        x.within(a, b);
        x.spans(a, b, a);
        x.span(b, a);
        x.within(b, a);
    }

    /** What calls beyond the 512th answer is free, but none may throw. */
    private static void manyCalls() {
        SpanSolids x = new SpanSolids();
        for (int i = 0; i < 5000; i++) {
            x.size(i % 7);
            if (i % 5 == 4) {
                x.solid(i / 5 % 4);
            }
            x.join(i % 60 + 1, i % 59 + 1, i % 3);
            x.turned(i % 60 + 1);
            x.spans(i % 60 + 1, i % 9, i % 8);
            x.within(0, x.span(0, 1));
        }
    }

    public static void main(String[] args) {
        thirtyFloors(false);
        thirtyFloors(true);
        cutSlab();
        mostSpans();
        mostKinds(false);
        mostKinds(true);
        deepest();
        farthest();
        wildArguments();
        manyCalls();
        System.out.println(wrong == 0 ? "all answers are as due" : wrong + " answers are not as due");
        if (wrong != 0) {
            System.exit(1);
        }
    }
}
