/** Each promise by itself: ordinary inputs, the edges that the document names, and wrong inputs. */
public final class PromiseTests {
    private static int wrong = 0;

    private static void due(String call, long got, long want) {
        if (got != want) {
            wrong++;
            System.out.println(call + " answered " + got + ", due is " + want);
        }
    }

    private static void due(String call, boolean got, boolean want) {
        due(call, got ? 1 : 0, want ? 1 : 0);
    }

    private static void sizes(SpanSolids x, int... values) {
        for (int value : values) {
            x.size(value);
        }
    }

    private static int make(SpanSolids x, int kind, int... values) {
        sizes(x, values);
        return x.solid(kind);
    }

    private static int move(SpanSolids x, int s, int byX, int byY, int byZ) {
        sizes(x, byX, byY, byZ);
        return x.moved(s);
    }

    private static SpanSolids full() {
        SpanSolids x = new SpanSolids();
        for (int i = 1; i <= 60; i++) {
            due("1: solid " + i + " of 60", make(x, 2, 0, 0, 0, i), i);
        }
        return x;
    }

    /** Solid k of 1 .. 50 has the weight 2 k - 1; 51 has 100. */
    private static SpanSolids heavy() {
        SpanSolids x = new SpanSolids();
        make(x, 0, 0, 0, 0, 2, 2, 2);
        for (int i = 2; i <= 50; i++) {
            x.join(i - 1, 1, 0);
        }
        x.turned(50);
        return x;
    }

    private static void newObject() {
        SpanSolids x = new SpanSolids();
        for (int s = -1; s <= 61; s++) {
            due("1: weight of none", x.weight(s), -1);
            due("1: inside of none", x.inside(s, 0, 0, 0), false);
            due("1: top of none", x.top(s, 0, 0), -1);
            due("1: spans of none", x.spans(s, 0, 0), -1);
        }
        due("1: span", x.span(0, 0), 0);
        due("1: span", x.span(0, 1), 0);
        due("1: within", x.within(Integer.MIN_VALUE, Integer.MAX_VALUE), 0);
        due("1: no sizes yet", x.size(0), 1);
        SpanSolids other = new SpanSolids();
        due("1: objects are apart", make(other, 2, 0, 0, 0, 1), 1);
        due("1: objects are apart", x.weight(1), -1);
        due("1: objects are apart", x.size(0), 2);
    }

    private static void size() {
        SpanSolids x = new SpanSolids();
        due("2: least", x.size(-5000), 1);
        due("2: below", x.size(-5001), -1);
        due("2: above", x.size(5001), -1);
        due("2: far below", x.size(Integer.MIN_VALUE), -1);
        due("2: far above", x.size(Integer.MAX_VALUE), -1);
        due("2: none was added", x.size(-5000), 2);
        due("2: third", x.size(-5000), 3);
        due("2: greatest", x.size(5000), 4);
        due("2: fifth", x.size(5000), 5);
        due("2: sixth", x.size(5000), 6);
        due("2: seventh", x.size(0), -1);
        due("2: eighth", x.size(0), -1);
        due("2: six are left", x.solid(0), 1);
        due("2: least and greatest were kept", x.inside(1, -5000, -5000, -5000), true);
        due("2: least and greatest were kept", x.inside(1, 4999, 4999, 4999), true);
        due("2: least and greatest were kept", x.inside(1, 5000, 4999, 4999), false);
        due("2: used up", x.size(7), 1);
        x.weight(1);
        x.turned(1);
        x.join(1, 1, 0);
        x.spans(1, 0, 0);
        x.top(1, 0, 0);
        due("2: other calls leave the sizes", x.size(7), 2);
    }

    private static void solid() {
        int[] needed = {6, 5, 4, 5};
        for (int kind = -2; kind <= 5; kind++) {
            for (int count = 0; count <= 6; count++) {
                SpanSolids x = new SpanSolids();
                for (int i = 0; i < count; i++) {
                    x.size(1);
                }
                boolean fits = kind >= 0 && kind <= 3 && needed[kind] == count;
                due("3: kind " + kind + " of " + count, x.solid(kind), fits ? 1 : -1);
                due("3: used up", x.size(0), 1);
                due("3: weight", x.weight(1), fits ? 1 : -1);
            }
        }
        SpanSolids x = new SpanSolids();
        due("3: post, r below 0", make(x, 1, 0, 0, -1, 0, 5), -1);
        due("3: ball, r below 0", make(x, 2, 0, 0, 0, -1), -1);
        due("3: cone, r below 0", make(x, 3, 0, 0, -1, 0, 5), -1);
        due("3: kind far off", make(x, Integer.MAX_VALUE, 0, 0, 0, 0, 0), -1);
        due("3: kind far off", make(x, Integer.MIN_VALUE, 0, 0, 0, 0), -1);
        due("3: post, r 0", make(x, 1, 1, 2, 0, -1, 5), 1);
        due("3: ball, r 0", make(x, 2, 1, 2, -1, 0), 2);
        due("3: cone, r 0", make(x, 3, 1, 2, 0, -1, 5), 3);
        due("3: other sizes below 0", make(x, 1, -1, -1, 1, -9, -2), 4);
        due("3: other sizes below 0", make(x, 2, -1, -1, -1, 1), 5);
        due("3: an empty box", make(x, 0, 5, 5, 5, 0, 0, 0), 6);
        due("3: an empty post", make(x, 1, 0, 0, 5, 3, 3), 7);
        due("3: an empty cone", make(x, 3, 0, 0, 5, 3, -3), 8);
        SpanSolids f = full();
        due("3: there are 60", make(f, 2, 0, 0, 0, 1), -2);
        due("3: used up when full", f.size(0), 1);
        due("3: wrong comes before full", f.solid(2), -1);
        due("3: wrong comes before full", make(f, 2, 0, 0, 0, -1), -1);
        due("3: wrong comes before full", make(f, 4, 0, 0, 0, 1), -1);
        due("3: no 61st", f.weight(61), -1);
        due("3: the 60th", f.inside(60, 60, 0, 0), true);
        due("3: the 60th", f.inside(60, 61, 0, 0), false);
    }

    private static void join() {
        SpanSolids x = new SpanSolids();
        make(x, 0, 0, 0, 0, 10, 10, 10);
        make(x, 0, 5, 5, 5, 15, 15, 15);
        due("4: or", x.join(1, 2, 0), 3);
        due("4: and", x.join(1, 2, 1), 4);
        due("4: without", x.join(1, 2, 2), 5);
        due("4: without, the other way", x.join(2, 1, 2), 6);
        // Places in the first alone, in both, in the second alone, in none.
        int[] places = {2, 7, 12, 20};
        boolean[] or = {true, true, true, false};
        boolean[] and = {false, true, false, false};
        boolean[] without = {true, false, false, false};
        boolean[] otherWay = {false, false, true, false};
        for (int i = 0; i < places.length; i++) {
            int p = places[i];
            due("4: or at " + p, x.inside(3, p, p, p), or[i]);
            due("4: and at " + p, x.inside(4, p, p, p), and[i]);
            due("4: without at " + p, x.inside(5, p, p, p), without[i]);
            due("4: the other way at " + p, x.inside(6, p, p, p), otherWay[i]);
        }
        due("4: how below", x.join(1, 2, -1), -1);
        due("4: how above", x.join(1, 2, 3), -1);
        due("4: how far off", x.join(1, 2, Integer.MIN_VALUE), -1);
        due("4: no first", x.join(0, 1, 0), -1);
        due("4: no first", x.join(7, 1, 0), -1);
        due("4: no second", x.join(1, 0, 0), -1);
        due("4: no second", x.join(1, 7, 0), -1);
        due("4: far off", x.join(Integer.MAX_VALUE, Integer.MIN_VALUE, 0), -1);
        due("4: with itself", x.join(1, 1, 2), 7);
        due("4: with itself", x.spans(7, 5, 5), 0);
        SpanSolids h = heavy();
        due("4: weight 99 and 1", h.join(50, 1, 0), -1);
        due("4: weight 97 and 1", h.join(49, 1, 0), 52);
        due("4: weight 97 and 2", h.turned(1), 53);
        due("4: weight 97 and 2", h.join(49, 53, 0), 54);
        due("4: weight 97 and 2", h.weight(54), 100);
        due("4: weight 97 and 3", h.join(49, 2, 0), -1);
        due("4: weight 3 and 97", h.join(2, 49, 0), -1);
        due("4: weight 100 and 100", h.join(54, 54, 0), -1);
        SpanSolids f = full();
        due("4: there are 60", f.join(1, 60, 0), -2);
        due("4: wrong comes before full", f.join(1, 61, 0), -1);
        due("4: wrong comes before full", f.join(1, 2, 3), -1);
    }

    private static void moved() {
        SpanSolids x = new SpanSolids();
        make(x, 2, 0, 0, 0, 0);
        due("5: moved", move(x, 1, 3, -4, 5), 2);
        due("5: there", x.inside(2, 3, -4, 5), true);
        due("5: not where it was", x.inside(2, 0, 0, 0), false);
        due("5: the old one stays", x.inside(1, 0, 0, 0), true);
        due("5: moved again", move(x, 2, 5000, 5000, -5000), 3);
        due("5: there", x.inside(3, 5003, 4996, -4995), true);
        for (int count = 0; count <= 6; count++) {
            if (count != 3) {
                for (int i = 0; i < count; i++) {
                    x.size(1);
                }
                due("5: " + count + " sizes", x.moved(1), -1);
                due("5: used up", x.size(0), 1);
                x.solid(0);
            }
        }
        due("5: none such", move(x, 0, 1, 1, 1), -1);
        due("5: used up", x.size(0), 1);
        x.solid(0);
        due("5: none such", move(x, 4, 1, 1, 1), -1);
        due("5: none such", move(x, Integer.MIN_VALUE, 1, 1, 1), -1);
        due("5: of sizes 0", move(x, 1, 0, 0, 0), 4);
        due("5: of sizes 0", x.weight(4), 2);
        SpanSolids h = heavy();
        due("5: weight 99", move(h, 50, 1, 1, 1), 52);
        due("5: weight 100", move(h, 51, 1, 1, 1), -1);
        due("5: used up", h.size(0), 1);
        SpanSolids f = full();
        due("5: there are 60", move(f, 1, 1, 1, 1), -2);
        due("5: used up when full", f.size(0), 1);
        due("5: wrong comes before full", f.moved(1), -1);
        due("5: wrong comes before full", move(f, 61, 1, 1, 1), -1);
    }

    private static void turned() {
        SpanSolids x = new SpanSolids();
        make(x, 2, 3, 7, 9, 0);
        int[][] places = {{3, 7}, {-7, 3}, {-3, -7}, {7, -3}, {3, 7}};
        for (int t = 1; t < places.length; t++) {
            due("6: turned", x.turned(t), t + 1);
        }
        for (int t = 0; t < places.length; t++) {
            for (int p = 0; p < 4; p++) {
                due("6: turned " + t + " at " + p,
                    x.inside(t + 1, places[p][0], places[p][1], 9), p == t % 4);
            }
        }
        due("6: moved after a turn", move(x, 2, 100, 0, 0), 6);
        due("6: moved after a turn", x.inside(6, 93, 3, 9), true);
        due("6: turned after a move", move(x, 1, 100, 0, 0), 7);
        due("6: turned after a move", x.turned(7), 8);
        due("6: turned after a move", x.inside(8, -7, 103, 9), true);
        due("6: none such", x.turned(0), -1);
        due("6: none such", x.turned(-1), -1);
        due("6: none such", x.turned(9), -1);
        due("6: none such", x.turned(Integer.MAX_VALUE), -1);
        x.size(4);
        due("6: sizes are left", x.turned(1), 9);
        due("6: sizes are left", x.size(4), 2);
        SpanSolids h = heavy();
        due("6: weight 99", h.turned(50), 52);
        due("6: weight 100", h.turned(52), -1);
        SpanSolids f = full();
        due("6: there are 60", f.turned(1), -2);
        due("6: wrong comes before full", f.turned(61), -1);
    }

    private static void weight() {
        SpanSolids x = new SpanSolids();
        make(x, 0, 0, 0, 0, 1, 1, 1);
        make(x, 1, 0, 0, 1, 0, 1);
        make(x, 2, 0, 0, 0, 1);
        make(x, 3, 0, 0, 1, 0, 1);
        for (int s = 1; s <= 4; s++) {
            due("7: a kind", x.weight(s), 1);
        }
        move(x, 1, 1, 1, 1);
        due("7: moved", x.weight(5), 2);
        x.turned(5);
        due("7: turned", x.weight(6), 3);
        x.join(6, 5, 1);
        due("7: joined", x.weight(7), 6);
        x.join(7, 7, 2);
        due("7: joined with itself", x.weight(8), 13);
        due("7: none such", x.weight(0), -1);
        due("7: none such", x.weight(-1), -1);
        due("7: none such", x.weight(9), -1);
        due("7: none such", x.weight(Integer.MAX_VALUE), -1);
        due("7: none such", x.weight(Integer.MIN_VALUE), -1);
        SpanSolids h = heavy();
        due("7: the greatest", h.weight(51), 100);
        due("7: odd", h.weight(50), 99);
    }

    private static void insideOfKinds() {
        SpanSolids x = new SpanSolids();
        make(x, 0, 1, 2, 3, 4, 6, 8);
        due("8: box, first", x.inside(1, 1, 2, 3), true);
        due("8: box, last", x.inside(1, 3, 5, 7), true);
        due("8: box, x before", x.inside(1, 0, 2, 3), false);
        due("8: box, y before", x.inside(1, 1, 1, 3), false);
        due("8: box, z before", x.inside(1, 1, 2, 2), false);
        due("8: box, x after", x.inside(1, 4, 5, 7), false);
        due("8: box, y after", x.inside(1, 3, 6, 7), false);
        due("8: box, z after", x.inside(1, 3, 5, 8), false);
        make(x, 1, 10, 20, 5, -2, 3);
        due("8: post, rim", x.inside(2, 13, 24, -2), true);
        due("8: post, rim", x.inside(2, 5, 20, 2), true);
        due("8: post, off the rim", x.inside(2, 14, 24, 0), false);
        due("8: post, z before", x.inside(2, 10, 20, -3), false);
        due("8: post, z after", x.inside(2, 10, 20, 3), false);
        make(x, 2, 10, 20, 30, 3);
        due("8: ball, rim", x.inside(3, 12, 22, 31), true);
        due("8: ball, rim", x.inside(3, 9, 18, 28), true);
        due("8: ball, off the rim", x.inside(3, 12, 22, 32), false);
        due("8: ball, foot", x.inside(3, 10, 20, 27), true);
        due("8: ball, below", x.inside(3, 10, 20, 26), false);
        make(x, 3, 10, 20, 4, 0, 4);
        due("8: cone, foot", x.inside(4, 14, 20, 0), true);
        due("8: cone, below the foot", x.inside(4, 10, 20, -1), false);
        due("8: cone, rim", x.inside(4, 13, 20, 1), true);
        due("8: cone, off the rim", x.inside(4, 13, 20, 2), false);
        due("8: cone, tip", x.inside(4, 10, 20, 3), true);
        due("8: cone, end", x.inside(4, 10, 20, 4), false);
        due("8: cone, no second one above", x.inside(4, 10, 20, 6), false);
        make(x, 1, 0, 0, 0, 5, 5);
        due("8: nothing in an empty post", x.inside(5, 0, 0, 5), false);
        make(x, 3, 0, 0, 5, 5, 4);
        due("8: nothing in an empty cone", x.inside(6, 0, 0, 4), false);
        due("8: nothing in an empty cone", x.inside(6, 0, 0, 5), false);
        make(x, 0, 0, 0, 5, 5, 5, 0);
        due("8: nothing in an empty box", x.inside(7, 0, 0, 3), false);
        due("8: none such", x.inside(0, 1, 2, 3), false);
        due("8: none such", x.inside(8, 1, 2, 3), false);
        due("8: none such", x.inside(Integer.MIN_VALUE, 1, 2, 3), false);
    }

    /** Solid 1 is a box about 0, solid n is moved n - 1 times. */
    private static SpanSolids farBoxes(int byX, int byY, int byZ) {
        SpanSolids x = new SpanSolids();
        make(x, 0, -5000, -5000, -5000, 5000, 5000, 5000);
        for (int i = 1; i <= 22; i++) {
            move(x, i, byX, byY, byZ);
        }
        return x;
    }

    private static void insideAtTheBound() {
        SpanSolids x = farBoxes(5000, 0, 0);
        due("8: x at the bound", x.inside(21, 100000, 0, 0), true);
        due("8: x beyond the bound", x.inside(21, 100001, 0, 0), false);
        x = farBoxes(0, -5000, 0);
        due("8: y at the bound", x.inside(21, 0, -100000, 0), true);
        due("8: y beyond the bound", x.inside(21, 0, -100001, 0), false);
        x = farBoxes(-5000, 0, 0);
        due("8: x at the bound", x.inside(21, -100000, 0, 0), true);
        due("8: x beyond the bound", x.inside(21, -100001, 0, 0), false);
        x = farBoxes(0, 5000, 0);
        due("8: y at the bound", x.inside(21, 0, 100000, 0), true);
        due("8: y beyond the bound", x.inside(21, 0, 100001, 0), false);
        x = farBoxes(0, 0, -5000);
        due("8: z at the bound", x.inside(21, 0, 0, -100000), true);
        due("8: z beyond the bound", x.inside(21, 0, 0, -100001), false);
        x = farBoxes(0, 0, 5000);
        due("8: z at the bound", x.inside(21, 0, 0, 100000), true);
        due("8: z beyond the bound", x.inside(21, 0, 0, 100001), false);
        due("8: far off", x.inside(1, Integer.MIN_VALUE, Integer.MAX_VALUE, Integer.MIN_VALUE), false);
        due("8: far off", x.inside(1, 0, 0, Integer.MAX_VALUE), false);
        x = farBoxes(5000, 5000, 5000);
        int s = 23;
        for (int i = 0; i < 22; i++) {
            s = move(x, s, -5000, -5000, -5000);
        }
        due("8: out over the bound and back", x.inside(s, 0, 0, 0), true);
    }

    private static void farCone() {
        SpanSolids x = new SpanSolids();
        make(x, 3, -5000, -5000, 5000, -5000, 5000);
        due("8: wide cone, foot", x.inside(1, 0, -5000, -5000), true);
        due("8: wide cone, off the foot", x.inside(1, 1, -5000, -5000), false);
        due("8: wide cone, tip", x.inside(1, -5000, -5000, 4999), true);
        // At these places the product of the cone's rule does not fit into a long.
        int s = 1;
        for (int i = 0; i < 58; i++) {
            s = move(x, s, -5000, -5000, 0);
        }
        for (int p = -100000; p <= 100000; p += 2000) {
            due("8: far from a cone at " + p, x.inside(s, p, 100000, -5000), false);
            due("9: far from a cone at " + p, x.top(s, p, p), 0);
        }
    }

    private static void top() {
        SpanSolids x = new SpanSolids();
        make(x, 0, 0, 0, -10, 5, 5, 0);
        due("9: all below 0", x.top(1, 1, 1), 0);
        make(x, 0, 0, 0, -10, 5, 5, 1);
        due("9: up to z 0", x.top(2, 1, 1), 1);
        make(x, 0, 0, 0, 0, 5, 5, 1000);
        due("9: up to z 999", x.top(3, 1, 1), 1000);
        make(x, 0, 0, 0, 0, 5, 5, 999);
        due("9: up to z 998", x.top(4, 1, 1), 999);
        make(x, 0, 0, 0, 0, 5, 5, 2000);
        due("9: through z 999", x.top(5, 1, 1), 1000);
        make(x, 0, 0, 0, 1000, 5, 5, 2000);
        due("9: all above 999", x.top(6, 1, 1), 0);
        make(x, 0, 0, 0, 999, 5, 5, 2000);
        due("9: from z 999", x.top(7, 1, 1), 1000);
        due("9: beside it", x.top(7, 5, 1), 0);
        due("9: beside it", x.top(7, 1, -1), 0);
        x.join(6, 2, 0);
        due("9: the highest is above 999", x.top(8, 1, 1), 1);
        make(x, 0, 0, 0, 300, 5, 5, 400);
        x.join(8, 9, 0);
        due("9: the highest of two", x.top(10, 1, 1), 400);
        due("9: none such", x.top(0, 1, 1), -1);
        due("9: none such", x.top(11, 1, 1), -1);
        due("9: none such and beyond", x.top(11, 100001, 1), -1);
        due("9: far off", x.top(1, Integer.MAX_VALUE, Integer.MIN_VALUE), 0);
        x = farBoxes(5000, 5000, 0);
        due("9: at the bound", x.top(21, 100000, 100000), 1000);
        due("9: beyond the bound", x.top(21, 100001, 100000), 0);
        due("9: beyond the bound", x.top(21, 100000, 100001), 0);
    }

    private static void spans() {
        SpanSolids x = new SpanSolids();
        make(x, 0, 0, 0, 0, 5, 5, 10);
        make(x, 0, 0, 0, 10, 5, 5, 20);
        make(x, 0, 0, 0, 21, 5, 5, 30);
        x.join(1, 2, 0);
        due("10: two that touch are one", x.spans(4, 1, 1), 1);
        due("10: its last", x.span(0, 1), 19);
        x.join(4, 3, 0);
        due("10: two that do not touch", x.spans(5, 1, 1), 2);
        due("10: first of the first", x.span(0, 0), 0);
        due("10: last of the first", x.span(0, 1), 19);
        due("10: first of the second", x.span(1, 0), 21);
        due("10: last of the second", x.span(1, 1), 29);
        x.join(3, 4, 0);
        due("10: rising, whatever the order", x.spans(6, 1, 1), 2);
        due("10: rising, whatever the order", x.span(0, 0), 0);
        make(x, 0, 0, 0, 20, 5, 5, 21);
        x.join(5, 7, 0);
        due("10: a gap filled", x.spans(8, 1, 1), 1);
        x.join(8, 7, 2);
        due("10: a gap cut", x.spans(9, 1, 1), 2);
        x.join(1, 2, 1);
        due("10: no points in both", x.spans(10, 1, 1), 0);
        due("10: told after none", x.span(0, 1), 0);
        due("10: beside it", x.spans(1, 5, 5), 0);
        x.spans(5, 1, 1);
        x.inside(1, 1, 1, 1);
        x.top(1, 1, 1);
        make(x, 2, 0, 0, 0, 1);
        x.join(1, 1, 2);
        due("10: other calls leave what is told", x.span(1, 1), 29);
        due("10: none such", x.spans(0, 1, 1), -1);
        due("10: none such", x.spans(13, 1, 1), -1);
        due("10: none such and beyond", x.spans(13, 100001, 1), -1);
        due("10: a refused call leaves what is told", x.span(1, 1), 29);
        due("10: beyond the bound", x.spans(5, 100001, 1), 0);
        due("10: beyond the bound, nothing is told", x.span(0, 1), 0);
        due("10: beyond the bound, nothing is told", x.within(-100000, 100000), 0);
        due("10: beyond the bound", x.spans(5, 1, -100001), 0);
        due("10: far off", x.spans(5, Integer.MIN_VALUE, Integer.MIN_VALUE), 0);
        x = farBoxes(5000, -5000, 5000);
        due("10: at the bound", x.spans(21, 100000, -100000), 1);
        due("10: z has no bound", x.span(0, 1), 104999);
        due("10: z has no bound", x.span(0, 0), 95000);
        due("10: z has no bound", x.within(100001, 100010), 10);
    }

    private static void spanOfKinds() {
        SpanSolids x = new SpanSolids();
        make(x, 2, 0, 0, 10, 5);
        int[] reach = {5, 4, 4, 4, 3, 0};
        for (int p = -6; p <= 6; p++) {
            boolean over = p >= -5 && p <= 5;
            int r = over ? reach[Math.abs(p)] : 0;
            due("10: ball at " + p, x.spans(1, 0, p), over ? 1 : 0);
            due("11: ball, first at " + p, x.span(0, 0), over ? 10 - r : 0);
            due("11: ball, last at " + p, x.span(0, 1), over ? 10 + r : 0);
        }
        make(x, 3, 0, 0, 3, 100, 110);
        int[] last = {109, 106, 103, 100};
        for (int p = -4; p <= 4; p++) {
            boolean over = p >= -3 && p <= 3;
            due("10: cone at " + p, x.spans(2, p, 0), over ? 1 : 0);
            due("11: cone, first at " + p, x.span(0, 0), over ? 100 : 0);
            due("11: cone, last at " + p, x.span(0, 1), over ? last[Math.abs(p)] : 0);
        }
        make(x, 3, 0, 0, 0, -5, 5);
        due("10: cone of r 0", x.spans(3, 0, 0), 1);
        due("11: cone of r 0", x.span(0, 1), 4);
        due("10: cone of r 0", x.spans(3, 0, 1), 0);
        make(x, 2, 0, 0, 0, 5000);
        due("10: the greatest ball", x.spans(4, 3000, 0), 1);
        due("11: the greatest ball", x.span(0, 0), -4000);
        due("11: the greatest ball", x.span(0, 1), 4000);
        make(x, 1, 3, 4, 5, -7, -2);
        due("10: post", x.spans(5, 0, 0), 1);
        due("11: post", x.span(0, 0), -7);
        due("11: post", x.span(0, 1), -3);
    }

    private static void span() {
        SpanSolids x = new SpanSolids();
        make(x, 0, 0, 0, 7, 5, 5, 9);
        make(x, 0, 0, 0, 12, 5, 5, 13);
        x.join(1, 2, 0);
        x.spans(3, 1, 1);
        due("11: span 0", x.span(0, 0), 7);
        due("11: span 0", x.span(0, 1), 8);
        due("11: span 1 of one z", x.span(1, 0), 12);
        due("11: span 1 of one z", x.span(1, 1), 12);
        due("11: no span 2", x.span(2, 0), 0);
        due("11: no span 2", x.span(2, 1), 0);
        due("11: none below 0", x.span(-1, 0), 0);
        due("11: none below 0", x.span(-1, 1), 0);
        due("11: far off", x.span(Integer.MAX_VALUE, 1), 0);
        due("11: far off", x.span(Integer.MIN_VALUE, 0), 0);
        due("11: far off", x.span(1 << 30, 0), 0);
        due("11: neither first nor last", x.span(0, 2), 0);
        due("11: neither first nor last", x.span(0, -1), 0);
        due("11: neither first nor last", x.span(0, Integer.MIN_VALUE), 0);
        x.spans(1, 1, 1);
        due("11: an older span is gone", x.span(1, 0), 0);
    }

    private static void within() {
        SpanSolids x = new SpanSolids();
        make(x, 0, 0, 0, -5, 5, 5, 0);
        make(x, 0, 0, 0, 10, 5, 5, 20);
        x.join(1, 2, 0);
        x.spans(3, 1, 1);
        due("12: all", x.within(-5, 19), 15);
        due("12: all that an int can ask", x.within(Integer.MIN_VALUE, Integer.MAX_VALUE), 15);
        due("12: one z, first", x.within(-5, -5), 1);
        due("12: one z, last", x.within(19, 19), 1);
        due("12: one z before", x.within(-6, -6), 0);
        due("12: one z after", x.within(20, 20), 0);
        due("12: in the gap", x.within(0, 9), 0);
        due("12: over the gap", x.within(-1, 10), 2);
        due("12: inside a span", x.within(12, 14), 3);
        due("12: b below a", x.within(14, 12), 0);
        due("12: b just below a", x.within(14, 13), 0);
        due("12: b far below a", x.within(Integer.MAX_VALUE, Integer.MIN_VALUE), 0);
        due("12: before all", x.within(Integer.MIN_VALUE, -6), 0);
        due("12: after all", x.within(20, Integer.MAX_VALUE), 0);
        x.spans(1, 1, 1);
        due("12: the newest alone", x.within(-100, 100), 5);
        x.spans(1, 9, 9);
        due("12: none", x.within(-100, 100), 0);
    }

    public static void main(String[] args) {
        newObject();
        size();
        solid();
        join();
        moved();
        turned();
        weight();
        insideOfKinds();
        insideAtTheBound();
        farCone();
        top();
        spans();
        spanOfKinds();
        span();
        within();
        System.out.println(wrong == 0 ? "all answers are as due" : wrong + " answers are not as due");
        if (wrong != 0) {
            System.exit(1);
        }
    }
}
