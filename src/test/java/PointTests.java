import java.math.BigInteger;
import java.util.ArrayList;
import java.util.List;
import java.util.function.IntSupplier;

/** Many solids made by a fixed row of numbers, against the document's rules asked point by point. */
public final class PointTests {
    private static final int BOUND = 100000;
    private static final int MOST_CALLS = 512;
    private static int wrong = 0;
    private static long state = 20261116L;

    /** What the document says of one solid, by points and without any spans. */
    private static final class Model {
        final int kind;
        final int[] sizes;
        final Model first;
        final Model second;
        final int weight;

        Model(int kind, int[] sizes, Model first, Model second) {
            this.kind = kind;
            this.sizes = sizes;
            this.first = first;
            this.second = second;
            this.weight = 1 + (first == null ? 0 : first.weight) + (second == null ? 0 : second.weight);
        }

        boolean has(long x, long y, long z) {
            int[] s = sizes;
            switch (kind) {
                case 0:
                    return s[0] <= x && x < s[3] && s[1] <= y && y < s[4] && s[2] <= z && z < s[5];
                case 1:
                    return s[3] <= z && z < s[4] && squares(x - s[0], y - s[1], 0) <= (long) s[2] * s[2];
                case 2:
                    return squares(x - s[0], y - s[1], z - s[2]) <= (long) s[3] * s[3];
                case 3:
                    return s[3] <= z && z < s[4] && product(squares(x - s[0], y - s[1], 0), s[4] - s[3])
                        .compareTo(product((long) s[2] * s[2], s[4] - z)) <= 0;
                case 4:
                    return first.has(x, y, z) || second.has(x, y, z);
                case 5:
                    return first.has(x, y, z) && second.has(x, y, z);
                case 6:
                    return first.has(x, y, z) && !second.has(x, y, z);
                case 7:
                    return first.has(x - s[0], y - s[1], z - s[2]);
                default:
                    return first.has(y, -x, z);
            }
        }

        private static long squares(long a, long b, long c) {
            return a * a + b * b + c * c;
        }

        private static BigInteger product(long a, long b) {
            return BigInteger.valueOf(a).multiply(BigInteger.valueOf(b)).multiply(BigInteger.valueOf(b));
        }
    }

    /** Makes its solids again in a new object after the 512th call, since nothing is promised after that. */
    private static final class Subject {
        private final List<IntSupplier> made = new ArrayList<>();
        private SpanSolids solids = new SpanSolids();
        private int calls = 0;
        private int[] told = null;

        int size(int v) {
            return make(() -> solids.size(v));
        }

        int solid(int kind) {
            return make(() -> solids.solid(kind));
        }

        int join(int a, int b, int how) {
            return make(() -> solids.join(a, b, how));
        }

        int moved(int s) {
            return make(() -> solids.moved(s));
        }

        int turned(int s) {
            return make(() -> solids.turned(s));
        }

        int weight(int s) {
            return asked().weight(s);
        }

        boolean inside(int s, int px, int py, int pz) {
            return asked().inside(s, px, py, pz);
        }

        int top(int s, int px, int py) {
            return asked().top(s, px, py);
        }

        int spans(int s, int px, int py) {
            told = new int[] {s, px, py};
            return asked().spans(s, px, py);
        }

        int span(int k, int what) {
            return asked().span(k, what);
        }

        long within(int a, int b) {
            return asked().within(a, b);
        }

        private int make(IntSupplier call) {
            made.add(call);
            calls++;
            return call.getAsInt();
        }

        private SpanSolids asked() {
            if (calls >= MOST_CALLS) {
                renew();
            }
            calls++;
            return solids;
        }

        private void renew() {
            solids = new SpanSolids();
            for (IntSupplier call : made) {
                call.getAsInt();
            }
            calls = made.size();
            if (told != null) {
                solids.spans(told[0], told[1], told[2]);
                calls++;
            }
        }
    }

    private static int next(int bound) {
        state = state * 6364136223846793005L + 1442695040888963407L;
        return (int) ((state >>> 33) % bound);
    }

    private static int between(int least, int most) {
        return least + next(most - least + 1);
    }

    private static void due(String call, long got, long want) {
        if (got != want) {
            wrong++;
            System.out.println(call + " answered " + got + ", due is " + want);
        }
    }

    /** The roles tell which sizes are places (p), radii (r) and heights (z); these spread far, for many spans. */
    private static int[] pick(String roles, int reach) {
        int[] sizes = new int[roles.length()];
        for (int i = 0; i < sizes.length; i++) {
            int far = Math.min(5000, roles.charAt(i) == 'z' ? 6 * reach : roles.charAt(i) == 'r' ? 3 * reach : reach);
            sizes[i] = roles.charAt(i) == 'r' ? between(0, far) : between(-far, far);
        }
        return sizes;
    }

    /** Most shapes have points; those that stay out of order are empty. */
    private static void order(int[] sizes, int low, int high) {
        if (sizes[low] > sizes[high] && next(8) > 0) {
            int kept = sizes[low];
            sizes[low] = sizes[high];
            sizes[high] = kept;
        }
    }

    private static void orderPlaces(int[] sizes, int low, int high, int reach) {
        order(sizes, low, high);
        if (next(3) > 0) {
            sizes[low] = Math.max(-5000, sizes[low] - reach);
            sizes[high] = Math.min(5000, sizes[high] + reach);
        }
    }

    /** Thin shapes leave room for others above them. */
    private static void orderHeights(int[] sizes, int low, int high, int reach) {
        order(sizes, low, high);
        if (next(4) > 0) {
            sizes[high] = Math.min(sizes[high], sizes[low] + between(0, reach));
        }
    }

    private static void give(Subject x, int[] sizes) {
        for (int i = 0; i < sizes.length; i++) {
            due("size(" + sizes[i] + ")", x.size(sizes[i]), i + 1);
        }
    }

    private static Model shape(Subject x, int reach, int number) {
        int kind = next(4);
        String[] roles = {"ppzppz", "pprzz", "ppzr", "pprzz"};
        int[] sizes = pick(roles[kind], reach);
        if (kind == 0) {
            orderPlaces(sizes, 0, 3, reach);
            orderPlaces(sizes, 1, 4, reach);
            orderHeights(sizes, 2, 5, reach);
        } else if (kind != 2) {
            orderHeights(sizes, 3, 4, reach);
        }
        give(x, sizes);
        due("solid(" + kind + ")", x.solid(kind), number);
        return new Model(kind, sizes, null, null);
    }

    private static Model change(Subject x, List<Model> made, int reach, int shapes) {
        int number = made.size() + 1;
        int a = recent(made.size());
        int b = recent(made.size());
        Model first = made.get(a - 1);
        Model second = made.get(b - 1);
        // More joins by or than others, so that there is something left to see.
        int what = Math.max(0, next(10) - 5);
        if (number <= shapes || next(3) == 0) {
            return shape(x, reach, number);
        }
        if (what < 3) {
            boolean fits = first.weight + second.weight + 1 <= 100;
            due("join", x.join(a, b, what), fits ? number : -1);
            return fits ? new Model(4 + what, null, first, second) : null;
        }
        boolean fits = first.weight + 1 <= 100;
        if (what == 3) {
            int[] sizes = pick("ppz", Math.max(1, reach / 4));
            give(x, sizes);
            due("moved", x.moved(a), fits ? number : -1);
            return fits ? new Model(7, sizes, first, null) : null;
        }
        due("turned", x.turned(a), fits ? number : -1);
        return fits ? new Model(8, null, first, null) : null;
    }

    private static int recent(int count) {
        return count == 0 ? 1 : count - next(Math.min(count, 8));
    }

    private static List<Model> build(Subject x, int reach, int shapes, int calls) {
        List<Model> made = new ArrayList<>();
        made.add(shape(x, reach, 1));
        for (int i = 0; i < calls && made.size() < 60; i++) {
            Model m = change(x, made, reach, shapes);
            if (m != null) {
                made.add(m);
            }
        }
        for (int s = 1; s <= made.size(); s++) {
            due("weight(" + s + ")", x.weight(s), made.get(s - 1).weight);
        }
        return made;
    }

    private static boolean beyond(int v) {
        return v < -BOUND || v > BOUND;
    }

    /** Every z of a small place is asked of the model, and the runs of them counted. */
    private static int compareAll(Subject x, Model m, int s, int px, int py, int reach) {
        int spans = x.spans(s, px, py);
        List<int[]> runs = new ArrayList<>();
        int top = 0;
        for (int z = -reach; z <= reach; z++) {
            boolean in = m.has(px, py, z);
            due("inside(" + s + ", " + px + ", " + py + ", " + z + ")", x.inside(s, px, py, z) ? 1 : 0, in ? 1 : 0);
            if (in && z >= 0 && z <= 999) {
                top = z + 1;
            }
            if (in && !runs.isEmpty() && runs.get(runs.size() - 1)[1] == z - 1) {
                runs.get(runs.size() - 1)[1] = z;
            } else if (in) {
                runs.add(new int[] {z, z});
            }
        }
        due("top(" + s + ", " + px + ", " + py + ")", x.top(s, px, py), top);
        due("spans(" + s + ", " + px + ", " + py + ")", spans, runs.size());
        for (int k = 0; k < runs.size(); k++) {
            due("span(" + k + ", 0)", x.span(k, 0), runs.get(k)[0]);
            due("span(" + k + ", 1)", x.span(k, 1), runs.get(k)[1]);
        }
        due("span(" + runs.size() + ", 0)", x.span(runs.size(), 0), 0);
        due("span(" + runs.size() + ", 1)", x.span(runs.size(), 1), 0);
        compareWithin(x, runs, reach);
        return spans;
    }

    private static void compareWithin(Subject x, List<int[]> runs, int reach) {
        for (int i = 0; i < 4; i++) {
            int a = between(-reach, reach);
            int b = between(-reach, reach);
            long count = 0;
            for (int[] run : runs) {
                for (int z = run[0]; z <= run[1]; z++) {
                    count += a <= z && z <= b ? 1 : 0;
                }
            }
            due("within(" + a + ", " + b + ")", x.within(a, b), count);
        }
    }

    private static void smallSolids() {
        int found = 0;
        for (int round = 0; round < 400; round++) {
            Subject x = new Subject();
            int reach = between(2, 9);
            List<Model> made = build(x, reach, between(2, 12), 45);
            for (int i = 0; i < 8; i++) {
                int s = i == 0 ? made.size() : between(1, made.size());
                found += compareAll(x, made.get(s - 1), s, between(-3, 3), between(-3, 3), 60 * 9);
            }
        }
        System.out.println(found + " spans of small solids compared");
        if (found < 1000) {
            due("spans of small solids", found, 1000);
        }
    }

    /** Of great solids only the spans' ends and some points are asked. */
    private static void greatSolids() {
        int found = 0;
        for (int round = 0; round < 1500; round++) {
            Subject x = new Subject();
            List<Model> made = build(x, 5000, between(2, 20), 50);
            for (int i = 0; i < 10; i++) {
                int s = between(1, made.size());
                int px = next(9) == 0 ? between(-BOUND - 9, BOUND + 9) : between(-4000, 4000);
                int py = next(9) == 0 ? between(-BOUND - 9, BOUND + 9) : between(-4000, 4000);
                found += compareEnds(x, made.get(s - 1), s, px, py);
            }
        }
        System.out.println(found + " spans of great solids compared");
        if (found < 1000) {
            due("spans of great solids", found, 1000);
        }
    }

    private static int compareEnds(Subject x, Model m, int s, int px, int py) {
        String call = "spans(" + s + ", " + px + ", " + py + ")";
        int count = x.spans(s, px, py);
        long all = 0;
        for (int k = 0; k < count; k++) {
            int first = x.span(k, 0);
            int last = x.span(k, 1);
            all += last - first + 1;
            due(call + ", before " + k, m.has(px, py, first - 1) ? 1 : 0, 0);
            due(call + ", first of " + k, m.has(px, py, first) ? 1 : 0, 1);
            due(call + ", last of " + k, m.has(px, py, last) ? 1 : 0, 1);
            due(call + ", after " + k, m.has(px, py, last + 1) ? 1 : 0, 0);
            if (k > 0 && first <= x.span(k - 1, 1) + 1) {
                due(call + ", rising at " + k, first, x.span(k - 1, 1) + 2);
            }
        }
        due(call + ", within", x.within(-700000, 700000), all);
        for (int i = 0; i < 8; i++) {
            int z = between(-9000, 9000);
            boolean in = !beyond(px) && !beyond(py) && m.has(px, py, z);
            due("inside(" + s + ", " + px + ", " + py + ", " + z + ")", x.inside(s, px, py, z) ? 1 : 0, in ? 1 : 0);
            due(call + ", within(" + z + ", " + z + ")", x.within(z, z), in ? 1 : 0);
        }
        compareTop(x, m, s, px, py);
        return count;
    }

    private static void compareTop(Subject x, Model m, int s, int px, int py) {
        int top = 0;
        for (int z = 999; z >= 0 && top == 0 && !beyond(px) && !beyond(py); z--) {
            top = m.has(px, py, z) ? z + 1 : 0;
        }
        due("top(" + s + ", " + px + ", " + py + ")", x.top(s, px, py), top);
    }

    public static void main(String[] args) {
        smallSolids();
        greatSolids();
        System.out.println(wrong == 0 ? "all answers are as due" : wrong + " answers are not as due");
        if (wrong != 0) {
            System.exit(1);
        }
    }
}
