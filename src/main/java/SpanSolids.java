/** Solids by set work: points in them, their tops, and their spans over a place. */
public final class SpanSolids {
    private static final int MOST_SOLIDS = 60;
    private static final int MOST_WEIGHT = 100;
    private static final int MOST_SIZES = 6;
    private static final int SIZE_BOUND = 5000;
    private static final int PLACE_BOUND = 100000;
    private static final int LEAST_TOP_Z = 0;
    private static final int MOST_TOP_Z = 999;

    private static final int REFUSED = -1;
    private static final int FULL = -2;

    private static final int BOX = 0;
    private static final int POST = 1;
    private static final int BALL = 2;
    private static final int CONE = 3;

    private static final int OR = 0;
    private static final int AND = 1;
    private static final int WITHOUT = 2;

    private static final int FIRST = 0;
    private static final int LAST = 1;

    // n kinds need n - 1 joins, so a weight of 100 holds at most 50 kinds, each with one run of z.
    private static final int MOST_RUNS = MOST_WEIGHT / 2;
    private static final int MOST_EDGES = 2 * MOST_RUNS;

    private final int[] sizes;
    private int sizeCount;
    private final Solid[] solids;
    private int solidCount;
    private final Walk walk;
    private final Runs seen;
    private final Runs told;

    public SpanSolids() {
        sizes = new int[MOST_SIZES];
        sizeCount = 0;
        solids = new Solid[MOST_SOLIDS];
        solidCount = 0;
        walk = new Walk();
        seen = new Runs();
        told = new Runs();
    }

    public int size(int v) {
        if (v < -SIZE_BOUND || v > SIZE_BOUND || sizeCount >= MOST_SIZES) {
            return REFUSED;
        }
        sizes[sizeCount] = v;
        sizeCount++;
        return sizeCount;
    }

    public int solid(int kind) {
        int given = useUpSizes();
        if (given != sizesNeeded(kind) || radiusOf(kind) < 0) {
            return REFUSED;
        }
        return isFull() ? FULL : keep(newShape(kind));
    }

    public int join(int a, int b, int how) {
        Solid first = find(a);
        Solid second = find(b);
        if (first == null || second == null || how < OR || how > WITHOUT) {
            return REFUSED;
        }
        if (first.weight + second.weight + 1 > MOST_WEIGHT) {
            return REFUSED;
        }
        return isFull() ? FULL : keep(new Joined(first, second, how));
    }

    public int moved(int s) {
        int given = useUpSizes();
        Solid part = find(s);
        if (part == null || given != 3 || part.weight + 1 > MOST_WEIGHT) {
            return REFUSED;
        }
        return isFull() ? FULL : keep(new Moved(part, sizes[0], sizes[1], sizes[2]));
    }

    public int turned(int s) {
        Solid part = find(s);
        if (part == null || part.weight + 1 > MOST_WEIGHT) {
            return REFUSED;
        }
        return isFull() ? FULL : keep(new Turned(part));
    }

    public int weight(int s) {
        Solid asked = find(s);
        return asked == null ? REFUSED : asked.weight;
    }

    public boolean inside(int s, int x, int y, int z) {
        Solid asked = find(s);
        if (asked == null || isBeyond(z)) {
            return false;
        }
        lookOver(asked, x, y, seen);
        return seen.countFrom(z, z) > 0;
    }

    public int top(int s, int x, int y) {
        Solid asked = find(s);
        if (asked == null) {
            return REFUSED;
        }
        lookOver(asked, x, y, seen);
        return seen.afterGreatest();
    }

    public int spans(int s, int x, int y) {
        Solid asked = find(s);
        if (asked == null) {
            return REFUSED;
        }
        lookOver(asked, x, y, told);
        return told.runCount();
    }

    public int span(int k, int what) {
        if (what == FIRST) {
            return told.firstOf(k);
        }
        return what == LAST ? told.lastOf(k) : 0;
    }

    public long within(int a, int b) {
        return told.countFrom(a, b);
    }

    private Solid find(int s) {
        return s < 1 || s > solidCount ? null : solids[s - 1];
    }

    private boolean isFull() {
        return solidCount >= MOST_SOLIDS;
    }

    private int keep(Solid made) {
        if (made == null || isFull()) {
            return REFUSED;
        }
        solids[solidCount] = made;
        solidCount++;
        return solidCount;
    }

    // The values stay in their row until the next size(), so a caller may still read them.
    private int useUpSizes() {
        int given = sizeCount;
        sizeCount = 0;
        return given;
    }

    private static int sizesNeeded(int kind) {
        switch (kind) {
            case BOX:
                return 6;
            case POST:
            case CONE:
                return 5;
            case BALL:
                return 4;
            default:
                return -1;
        }
    }

    private int radiusOf(int kind) {
        switch (kind) {
            case POST:
            case CONE:
                return sizes[2];
            case BALL:
                return sizes[3];
            default:
                return 0;
        }
    }

    private Solid newShape(int kind) {
        switch (kind) {
            case BOX:
                return new Box(sizes[0], sizes[1], sizes[2], sizes[3], sizes[4], sizes[5]);
            case POST:
                return new Post(sizes[0], sizes[1], sizes[2], sizes[3], sizes[4]);
            case BALL:
                return new Ball(sizes[0], sizes[1], sizes[2], sizes[3]);
            case CONE:
                return new Cone(sizes[0], sizes[1], sizes[2], sizes[3], sizes[4]);
            default:
                return null;
        }
    }

    // The bound is only for what is asked: parts of a moved solid may lie beyond it.
    private void lookOver(Solid asked, int x, int y, Runs found) {
        if (isBeyond(x) || isBeyond(y)) {
            found.clear();
        } else {
            walk.over(asked, x, y, found);
        }
    }

    private static boolean isBeyond(int place) {
        return place < -PLACE_BOUND || place > PLACE_BOUND;
    }

    private static long square(long v) {
        return v * v;
    }

    private static int rootBelow(long v, int most) {
        int low = 0;
        int high = most;
        for (int step = 0; step < 32 && low < high; step++) {
            int middle = low + (high - low + 1) / 2;
            if (square(middle) <= v) {
                low = middle;
            } else {
                high = middle - 1;
            }
        }
        return low;
    }

    /** A set of points; its parts are older solids, so every chain of parts ends. */
    private abstract static class Solid {
        final int weight;

        Solid(int weight) {
            this.weight = weight;
        }

        /** Gives the walk this solid's z over x y, raised by lift, or the parts that it must look at first. */
        abstract void lookFrom(int x, int y, int lift, Walk walk);
    }

    private static final class Box extends Solid {
        private final int x;
        private final int y;
        private final int z;
        private final int endX;
        private final int endY;
        private final int endZ;

        Box(int x, int y, int z, int endX, int endY, int endZ) {
            super(1);
            this.x = x;
            this.y = y;
            this.z = z;
            this.endX = endX;
            this.endY = endY;
            this.endZ = endZ;
        }

        void lookFrom(int px, int py, int lift, Walk walk) {
            if (x <= px && px < endX && y <= py && py < endY) {
                walk.give(z + lift, endZ + lift);
            } else {
                walk.giveNone();
            }
        }
    }

    private static final class Post extends Solid {
        private final int x;
        private final int y;
        private final int r;
        private final int z;
        private final int endZ;

        Post(int x, int y, int r, int z, int endZ) {
            super(1);
            this.x = x;
            this.y = y;
            this.r = r;
            this.z = z;
            this.endZ = endZ;
        }

        void lookFrom(int px, int py, int lift, Walk walk) {
            if (square(px - x) + square(py - y) <= square(r)) {
                walk.give(z + lift, endZ + lift);
            } else {
                walk.giveNone();
            }
        }
    }

    private static final class Ball extends Solid {
        private final int x;
        private final int y;
        private final int z;
        private final int r;

        Ball(int x, int y, int z, int r) {
            super(1);
            this.x = x;
            this.y = y;
            this.z = z;
            this.r = r;
        }

        void lookFrom(int px, int py, int lift, Walk walk) {
            long left = square(r) - square(px - x) - square(py - y);
            if (left < 0) {
                walk.giveNone();
            } else {
                int reach = rootBelow(left, r);
                walk.give(z - reach + lift, z + reach + 1 + lift);
            }
        }
    }

    private static final class Cone extends Solid {
        private final int x;
        private final int y;
        private final int r;
        private final int z;
        private final int endZ;

        Cone(int x, int y, int r, int z, int endZ) {
            super(1);
            this.x = x;
            this.y = y;
            this.r = r;
            this.z = z;
            this.endZ = endZ;
        }

        void lookFrom(int px, int py, int lift, Walk walk) {
            long apart = square(px - x) + square(py - y);
            // Nothing is wider than the foot; far places end here, before a product could overflow.
            if (endZ <= z || apart > square(r)) {
                walk.giveNone();
            } else {
                walk.give(z + lift, endZ - leastDepth(apart) + 1 + lift);
            }
        }

        /** How far below endZ the highest point lies that is still wide enough; the foot always is. */
        private int leastDepth(long apart) {
            int low = 1;
            int high = endZ - z;
            long needed = apart * square(endZ - z);
            for (int step = 0; step < 32 && low < high; step++) {
                int middle = low + (high - low) / 2;
                if (needed <= square(r) * square(middle)) {
                    high = middle;
                } else {
                    low = middle + 1;
                }
            }
            return low;
        }
    }

    private static final class Joined extends Solid {
        private final Solid first;
        private final Solid second;
        private final int how;

        Joined(Solid first, Solid second, int how) {
            super(first.weight + second.weight + 1);
            this.first = first;
            this.second = second;
            this.how = how;
        }

        void lookFrom(int px, int py, int lift, Walk walk) {
            // The newest waits least: first, then second, then the join of what both gave.
            walk.awaitJoin(how);
            walk.await(second, px, py, lift);
            walk.await(first, px, py, lift);
        }
    }

    private static final class Moved extends Solid {
        private final Solid part;
        private final int byX;
        private final int byY;
        private final int byZ;

        Moved(Solid part, int byX, int byY, int byZ) {
            super(part.weight + 1);
            this.part = part;
            this.byX = byX;
            this.byY = byY;
            this.byZ = byZ;
        }

        void lookFrom(int px, int py, int lift, Walk walk) {
            walk.await(part, px - byX, py - byY, lift + byZ);
        }
    }

    private static final class Turned extends Solid {
        private final Solid part;

        Turned(Solid part) {
            super(part.weight + 1);
            this.part = part;
        }

        void lookFrom(int px, int py, int lift, Walk walk) {
            walk.await(part, py, -px, lift);
        }
    }

    /** Finds a solid's z over a place, with a stack of what still waits in place of recursion. */
    private static final class Walk {
        // A join's weight is that of its parts and 1 for itself, so what waits never outgrows the weight.
        private static final int MOST_WAITING = MOST_WEIGHT;
        // Every solid is looked at once, and every join once more when its parts are found.
        private static final int MOST_STEPS = 2 * MOST_WEIGHT;

        private final Solid[] waiting;
        private final int[] xs;
        private final int[] ys;
        private final int[] lifts;
        private final int[] hows;
        private int waitingCount;
        private final FoundSets found;

        Walk() {
            waiting = new Solid[MOST_WAITING];
            xs = new int[MOST_WAITING];
            ys = new int[MOST_WAITING];
            lifts = new int[MOST_WAITING];
            hows = new int[MOST_WAITING];
            waitingCount = 0;
            found = new FoundSets();
        }

        void over(Solid asked, int x, int y, Runs result) {
            waitingCount = 0;
            found.clear();
            await(asked, x, y, 0);
            for (int step = 0; step < MOST_STEPS && waitingCount > 0; step++) {
                waitingCount--;
                lookAt(waitingCount);
            }
            found.copyTo(result);
        }

        private void lookAt(int place) {
            Solid next = waiting[place];
            if (next == null) {
                found.joinNewest(hows[place]);
            } else {
                next.lookFrom(xs[place], ys[place], lifts[place], this);
            }
        }

        void await(Solid part, int x, int y, int lift) {
            if (waitingCount >= MOST_WAITING) {
                return;
            }
            waiting[waitingCount] = part;
            xs[waitingCount] = x;
            ys[waitingCount] = y;
            lifts[waitingCount] = lift;
            waitingCount++;
        }

        /** A waiting join stands without a solid of its own. */
        void awaitJoin(int how) {
            if (waitingCount >= MOST_WAITING) {
                return;
            }
            waiting[waitingCount] = null;
            hows[waitingCount] = how;
            waitingCount++;
        }

        void give(int first, int end) {
            found.add(first, end);
        }

        void giveNone() {
            found.add(0, 0);
        }
    }

    /**
     * A stack of sets of z. Each set is a row of rising edges: where a run begins, where it has ended,
     * where the next begins; so two runs never touch, and each is as long as it can be.
     */
    private static final class FoundSets {
        private final int[] edges;
        private final int[] starts;
        private final int[] mixed;
        private int edgeCount;
        private int setCount;

        FoundSets() {
            edges = new int[MOST_EDGES];
            starts = new int[MOST_RUNS];
            mixed = new int[MOST_EDGES];
            edgeCount = 0;
            setCount = 0;
        }

        void clear() {
            edgeCount = 0;
            setCount = 0;
        }

        /** A new set of the z from first on, below end; an empty one if there is none. */
        void add(int first, int end) {
            if (setCount >= MOST_RUNS || edgeCount + 2 > MOST_EDGES) {
                return;
            }
            starts[setCount] = edgeCount;
            setCount++;
            if (first < end) {
                edges[edgeCount] = first;
                edges[edgeCount + 1] = end;
                edgeCount += 2;
            }
        }

        /** Puts the join of the two newest sets in their place. */
        void joinNewest(int how) {
            if (setCount < 2) {
                return;
            }
            int start = starts[setCount - 2];
            int mixedCount = mix(start, starts[setCount - 1], how);
            for (int i = 0; i < mixedCount && start + i < MOST_EDGES; i++) {
                edges[start + i] = mixed[i];
            }
            edgeCount = start + mixedCount;
            setCount--;
        }

        /** Goes up along the edges of both sets and notes where the join of them changes. */
        private int mix(int start, int middle, int how) {
            int a = start;
            int b = middle;
            int count = 0;
            boolean inA = false;
            boolean inB = false;
            boolean inJoin = false;
            for (int step = 0; step < MOST_EDGES && (a < middle || b < edgeCount); step++) {
                int z = nextEdge(a, middle, b);
                if (a < middle && edges[a] == z) {
                    inA = !inA;
                    a++;
                }
                if (b < edgeCount && edges[b] == z) {
                    inB = !inB;
                    b++;
                }
                if (isJoined(inA, inB, how) != inJoin) {
                    inJoin = !inJoin;
                    mixed[count] = z;
                    count++;
                }
            }
            return count;
        }

        private int nextEdge(int a, int middle, int b) {
            if (a >= middle) {
                return b < edgeCount ? edges[b] : 0;
            }
            return b < edgeCount && edges[b] < edges[a] ? edges[b] : edges[a];
        }

        private static boolean isJoined(boolean inA, boolean inB, int how) {
            switch (how) {
                case OR:
                    return inA || inB;
                case AND:
                    return inA && inB;
                default:
                    return inA && !inB;
            }
        }

        void copyTo(Runs result) {
            result.copyFrom(edges, edgeCount);
        }
    }

    /** One set of z, kept as the rising edges of its runs. */
    private static final class Runs {
        private final int[] edges;
        private int edgeCount;

        Runs() {
            edges = new int[MOST_EDGES];
            edgeCount = 0;
        }

        void clear() {
            edgeCount = 0;
        }

        void copyFrom(int[] from, int count) {
            edgeCount = Math.min(count, Math.min(from.length, MOST_EDGES));
            for (int i = 0; i < edgeCount; i++) {
                edges[i] = from[i];
            }
        }

        int runCount() {
            return edgeCount / 2;
        }

        int firstOf(int run) {
            return run < 0 || run >= runCount() ? 0 : edges[2 * run];
        }

        int lastOf(int run) {
            return run < 0 || run >= runCount() ? 0 : edges[2 * run + 1] - 1;
        }

        long countFrom(int least, int most) {
            long count = 0;
            for (int run = 0; run < runCount(); run++) {
                long from = Math.max(least, firstOf(run));
                long to = Math.min(most, lastOf(run));
                if (from <= to) {
                    count += to - from + 1;
                }
            }
            return count;
        }

        /** 1 more than the greatest z among those that count for a top, 0 if there is none. */
        int afterGreatest() {
            int after = 0;
            for (int run = 0; run < runCount(); run++) {
                int to = Math.min(MOST_TOP_Z, lastOf(run));
                if (to >= LEAST_TOP_Z && to >= firstOf(run)) {
                    after = to + 1;
                }
            }
            return after;
        }
    }
}
