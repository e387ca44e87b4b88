/** Each promise by hand: ordinary calls, the edges that the document names, and what is refused. */
public final class PromisesTest {
    private static final int GAP = -32768, REFUSED = -40000;
    private static final int LOW = Integer.MIN_VALUE, HIGH = Integer.MAX_VALUE;
    private static int wrong = 0;
    private static String promise = "";

    private static void due(String call, int got, int want) {
        if (got != want) {
            wrong++;
            System.out.println(promise + ": " + call + " answered " + got + ", due is " + want);
        }
    }

    private static int pair(int first, int next) {
        return first << 16 | next & 0xffff;
    }

    private static int put(AskTree x, int cls, int first, int next) {
        return x.add(cls, pair(first, next), 0, 0, 0);
    }

    private static AskTree withCases(int[][] cases) {
        AskTree x = new AskTree();
        for (int[] c : cases) put(x, c[0], c[1], c[2]);
        return x;
    }

    private static void nodeIs(AskTree x, int tree, int node, int... want) {
        for (int what = 0; what < want.length; what++) {
            due("node(" + tree + ", " + node + ", " + what + ")", x.node(tree, node, what), want[what]);
        }
    }

    private static void newObject() {
        promise = "1";
        AskTree x = new AskTree();
        due("count(0)", x.count(0), 0);
        due("count(1)", x.count(1), 0);
        due("said()", x.said(), -1);
        due("voices()", x.voices(), -1);
        due("turned(0)", x.turned(0), REFUSED);
        for (int m = 0; m < 8; m++) due("sort(m, 0)", x.sort(m, 0), 0);
        AskTree y = new AskTree();
        put(y, 1, 2, 3);
        due("another object's count(0)", x.count(0), 0);
    }

    private static void sort() {
        promise = "2";
        AskTree x = new AskTree();
        due("sort(0, 1)", x.sort(0, 1), 0);
        due("sort(0, 1)", x.sort(0, 1), 1);
        due("sort(0, 0)", x.sort(0, 0), 1);
        due("sort(7, 1)", x.sort(7, 1), 0);
        int[][] bad = {{8, 0}, {-1, 0}, {0, 2}, {0, -1}, {HIGH, 0}, {LOW, 1}, {0, HIGH}, {0, LOW}};
        for (int[] b : bad) due("sort of no such thing", x.sort(b[0], b[1]), -1);
        put(x, 0, 0, 0);
        due("sort with a case", x.sort(7, 0), -1);
        x.grow(0, 1);
        x.drop(0);
        due("sort with a tree", x.sort(7, 0), -1);
        x.remove();
        due("sort again", x.sort(7, 0), 1);
    }

    private static void add() {
        promise = "3";
        AskTree x = new AskTree();
        due("add", x.add(3, pair(-1000, 1000), pair(GAP, -1), pair(0, GAP), pair(1, -2)), 0);
        int[] want = {-1000, 1000, GAP, -1, 0, GAP, 1, -2};
        for (int m = 0; m < 8; m++) due("mark(0, " + m + ")", x.mark(0, m), want[m]);
        due("add", x.add(0, 0, 0, 0, 0), 1);
        due("class 4", x.add(4, 0, 0, 0, 0), -1);
        due("class -1", x.add(-1, 0, 0, 0, 0), -1);
        int[] bad = {pair(1001, 0), pair(-1001, 0), pair(0, 1001), pair(0, -1001), pair(0, -32767), pair(32767, 0)};
        for (int b : bad) {
            due("a not as said", x.add(0, b, 0, 0, 0), -1);
            due("b not as said", x.add(0, 0, b, 0, 0), -1);
            due("c not as said", x.add(0, 0, 0, b, 0), -1);
            due("d not as said", x.add(0, 0, 0, 0, b), -1);
        }
        due("count(0)", x.count(0), 2);
        for (int i = 2; i < 300; i++) due("add", put(x, i % 4, i, -i), i);
        due("the 301st", x.add(0, 0, 0, 0, 0), -4);
        due("NONE comes before FULL", x.add(4, 0, 0, 0, 0), -1);
        due("NONE comes before FULL", x.add(0, 0, 0, 0, pair(1001, 0)), -1);
        due("count(0)", x.count(0), 300);
        x.drop(0);
        due("add once more", put(x, 0, 0, 0), 299);
    }

    private static void drop() {
        promise = "4";
        AskTree x = withCases(new int[][] {{0, 10, 1}, {1, 11, 2}, {2, 12, 3}, {3, 13, 4}});
        due("drop(4)", x.drop(4), -1);
        due("drop(-1)", x.drop(-1), -1);
        due("drop(1)", x.drop(1), 3);
        int[][] left = {{0, 10, 1}, {2, 12, 3}, {3, 13, 4}};
        for (int i = 0; i < 3; i++) {
            due("cls(" + i + ")", x.cls(i), left[i][0]);
            due("mark(" + i + ", 0)", x.mark(i, 0), left[i][1]);
            due("mark(" + i + ", 1)", x.mark(i, 1), left[i][2]);
        }
        due("drop(2)", x.drop(2), 2);
        due("drop(0)", x.drop(0), 1);
        due("drop(0)", x.drop(0), 0);
        due("drop(0)", x.drop(0), -1);
        put(x, 1, 5, 0);
        put(x, 2, 3, 0);
        x.grow(1, 1);
        nodeIs(x, 0, 0, 0, 5, 1, 2);
    }

    private static void mark() {
        promise = "5";
        AskTree x = new AskTree();
        x.add(0, pair(-7, GAP), 0, 0, pair(0, 9));
        due("mark(0, 0)", x.mark(0, 0), -7);
        due("mark(0, 1)", x.mark(0, 1), GAP);
        due("mark(0, 7)", x.mark(0, 7), 9);
        int[][] bad = {{1, 0}, {-1, 0}, {0, 8}, {0, -1}, {HIGH, 0}, {LOW, 0}, {0, HIGH}, {0, LOW}};
        for (int[] b : bad) due("mark of no such thing", x.mark(b[0], b[1]), REFUSED);
    }

    private static void cls() {
        promise = "6";
        AskTree x = withCases(new int[][] {{3, 0, 0}, {0, 0, 0}});
        due("cls(0)", x.cls(0), 3);
        due("cls(1)", x.cls(1), 0);
        due("cls(2)", x.cls(2), -1);
        due("cls(-1)", x.cls(-1), -1);
    }

    private static void grow() {
        promise = "7";
        AskTree x = withCases(new int[][] {{0, 1, 9}, {0, 2, 1}, {1, 3, 9}, {1, 4, 1}, {1, 5, 1}});
        due("grow(8, 1)", x.grow(8, 1), 0);
        nodeIs(x, 0, 0, 0, 3, 1, 2, 1, 5, 2, 0, 0);
        nodeIs(x, 0, 1, -1, 0, -1, -1, 0, 2, 0, 1, 0);
        nodeIs(x, 0, 2, -1, 0, -1, -1, 1, 3, 0, 1, 0);
        due("grow(0, 1)", x.grow(0, 1), 1);
        nodeIs(x, 1, 0, -1, 0, -1, -1, 1, 5, 2, 0, 0);
        due("grow(8, 3)", x.grow(8, 3), 2);
        due("no question with three cases on each side", x.tree(2, 0), 1);
        int[][] bad = {{9, 1}, {-1, 1}, {0, 0}, {0, 101}, {HIGH, 1}, {LOW, 1}, {1, HIGH}, {1, LOW}};
        for (int[] b : bad) due("grow not as said", x.grow(b[0], b[1]), -1);
        due("grow(8, 100)", x.grow(8, 100), 3);
        growTies();
        growGaps();
        growFull();
        for (int t = 4; t < 20; t++) due("grow", x.grow(1, 1), t);
        due("the 21st tree", x.grow(1, 1), -4);
        due("NONE comes before FULL", x.grow(9, 1), -1);
    }

    private static void growTies() {
        AskTree x = withCases(new int[][] {{0, 1, 1}, {1, 2, 2}});
        x.grow(8, 1);
        nodeIs(x, 0, 0, 0, 2);
        AskTree y = withCases(new int[][] {{0, 1, 0}, {1, 2, 0}, {0, 3, 0}});
        y.grow(1, 1);
        nodeIs(y, 0, 0, 0, 2, 1, 2, 0, 3, 1, 0, 0);
        AskTree z = new AskTree();
        z.sort(0, 1);
        put(z, 0, 5, 0);
        put(z, 1, -5, 0);
        z.grow(1, 1);
        nodeIs(z, 0, 0, 0, -5, 1, 2, 0, 2, 1, 0, 1);
        nodeIs(z, 0, 1, -1, 0, -1, -1, 1);
        AskTree even = withCases(new int[][] {{0, 1, 0}, {1, 1, 0}, {0, 2, 0}, {1, 2, 0}});
        even.grow(8, 1);
        due("a question that gains nothing is not asked", even.tree(0, 0), 1);
    }

    private static void growGaps() {
        // the default is YES where as many answer YES as NO, and the gaps count for the least count
        AskTree x = withCases(new int[][] {{0, 1, 0}, {1, 2, 0}, {0, GAP, 0}, {0, GAP, 0}});
        x.grow(8, 1);
        nodeIs(x, 0, 0, 0, 2, 1, 2, 0, 4, 1, 0, 1);
        due("share of YES", x.share(0, 1, 0), 3);
        due("grow(8, 2)", x.grow(8, 2), 1);
        due("one case is too few for NO", x.tree(1, 0), 1);
        AskTree y = withCases(new int[][] {{0, 1, 0}, {1, 2, 0}, {1, 3, 0}, {1, GAP, 0}});
        y.grow(1, 1);
        nodeIs(y, 0, 0, 0, 2, 1, 2, 1, 4, 1, 0, 0);
        due("share of NO", y.share(0, 2, 1), 3);
        AskTree only = withCases(new int[][] {{0, GAP, GAP}, {1, GAP, GAP}});
        only.grow(8, 1);
        due("gaps alone are not parted", only.tree(0, 0), 1);
    }

    private static void growFull() {
        AskTree x = new AskTree();
        // the least square gain of each node is at its edge, so that depth 8 is reached and kept
        for (int i = 0; i < 300; i++) put(x, i % 2, i, 0);
        x.grow(8, 1);
        due("depth", x.tree(0, 2), 8);
        due("cases", x.tree(0, 4), 300);
        due("nodes", x.tree(0, 0), 2 * x.tree(0, 1) - 1);
        AskTree none = new AskTree();
        due("grow without cases", none.grow(8, 1), 0);
        nodeIs(none, 0, 0, -1, 0, -1, -1, 0, 0, 0, 0, 0);
    }

    private static void best() {
        promise = "8";
        int[][] cross = {{0, 0, 0}, {1, 1, 0}, {1, 0, 1}, {0, 1, 1}};
        AskTree x = withCases(cross);
        due("best(2)", x.best(2), 0);
        nodeIs(x, 0, 0, 0, 1, 1, 4, 0, 4, 2, 0, 1);
        nodeIs(x, 0, 1, 1, 1, 2, 3);
        nodeIs(x, 0, 4, 1, 1, 5, 6);
        due("wrong", x.tree(0, 3), 0);
        due("best(1)", x.best(1), 1);
        due("no one question helps", x.tree(1, 0), 1);
        due("best(0)", x.best(0), 2);
        due("best(3)", x.best(3), -1);
        due("best(-1)", x.best(-1), -1);
        put(x, 0, GAP, 0);
        due("with a gap", x.best(2), -3);
        for (int i = 5; i < 50; i++) put(x, 0, i, 0);
        due("fifty with a gap", x.best(0), -3);
        put(x, 0, 0, 0);
        due("51 with a gap", x.best(0), -2);
        due("NONE comes before MANY", x.best(3), -1);
        x.drop(4);
        due("fifty", x.best(2), 3);
        for (int t = 4; t < 20; t++) x.grow(0, 1);
        due("FULL", x.best(0), -4);
        put(x, 0, GAP, 0);
        due("MANY comes before FULL", x.best(0), -2);
        x.drop(0);
        due("GAPS comes before FULL", x.best(0), -3);
        bestOrder();
    }

    private static void bestOrder() {
        // both marks part the cases without a fault: the least mark, then the least v
        AskTree x = withCases(new int[][] {{0, 1, 5}, {1, 3, 7}, {1, 4, 8}});
        x.best(2);
        nodeIs(x, 0, 0, 0, 3, 1, 2);
        due("one question is enough", x.tree(0, 0), 3);
        AskTree y = withCases(new int[][] {{0, 2, 1}, {1, 1, 2}, {0, 0, 1}});
        y.best(2);
        nodeIs(y, 0, 0, 1, 2, 1, 2);
        AskTree z = new AskTree();
        z.sort(0, 1);
        put(z, 0, 1, 0);
        put(z, 1, 2, 0);
        put(z, 0, 3, 0);
        z.best(1);
        nodeIs(z, 0, 0, 0, 2, 1, 2, 0, 3, 1, 0, 0);
        // three questions from mark 0 on, two from mark 1 on: the fewest, though mark 0 comes first
        AskTree few = withCases(new int[][] {{0, 0, 0}, {1, 0, 1}, {1, 1, 1}, {0, 1, 2}});
        few.best(2);
        due("wrong", few.tree(0, 3), 0);
        due("nodes", few.tree(0, 0), 5);
        nodeIs(few, 0, 0, 1, 1, 1, 2);
        nodeIs(few, 0, 2, 1, 2, 3, 4);
        AskTree none = new AskTree();
        due("best without cases", none.best(2), 0);
        nodeIs(none, 0, 0, -1, 0, -1, -1, 0, 0, 0, 0, 0);
    }

    /**
     * Grown whole: 0 asks for 4, then 2 for 15, then 3 for 11; leaves 1 (class 0), 4 (1), 5 (2), 6 (3).
     * The gain at 4 is 9/3 + 21/7 = 6 less the node's own, at 11 it is 10/4 + 20/6.
     */
    private static AskTree stepped() {
        return withCases(new int[][] {
            {0, 1, 0}, {0, 2, 0}, {0, 3, 0}, {1, 4, 0}, {2, 11, 0}, {2, 12, 0}, {2, 13, 0}, {2, 14, 0}, {3, 15, 0}, {3, 16, 0}
        });
    }

    private static void cut() {
        promise = "9";
        AskTree x = stepped();
        x.grow(8, 1);
        due("leaves", x.tree(0, 1), 4);
        due("wrong", x.tree(0, 3), 0);
        due("cut(0, 0, 1)", x.cut(0, 0, 1), 1);
        due("leaves", x.tree(1, 1), 4);
        due("cut(0, 9999, 10000)", x.cut(0, 9999, 10000), 2);
        due("leaves just below the price", x.tree(2, 1), 4);
        due("cut(0, 1, 1)", x.cut(0, 1, 1), 3);
        due("leaves at the price: the fewest", x.tree(3, 1), 3);
        due("wrong", x.tree(3, 3), 1);
        nodeIs(x, 3, 0, 0, 4, 1, 2, 2, 10, 6, 0, 0);
        nodeIs(x, 3, 2, 0, 15, 3, 4, 2, 7, 3, 1, 1);
        nodeIs(x, 3, 3, -1, 0, -1, -1, 2, 5, 1, 2, 0);
        due("share of the node cut", x.share(3, 3, 1), 1);
        nodeIs(x, 3, 4, -1, 0, -1, -1, 3, 2, 0, 2, 0);
        due("cut(0, 10000, 1)", x.cut(0, 10000, 1), 4);
        due("nodes", x.tree(4, 0), 1);
        due("cases", x.tree(4, 4), 10);
        due("a cut tree cut", x.cut(3, 2, 1), 5);
        due("leaves", x.tree(5, 1), 2);
        int[][] bad = {{6, 1, 1}, {-1, 1, 1}, {0, -1, 1}, {0, 10001, 1}, {0, 1, 0}, {0, 1, 10001}, {0, 1, -1}, {HIGH, 1, 1}};
        for (int[] b : bad) due("cut not as said", x.cut(b[0], b[1], b[2]), -1);
        due("trees", x.count(1), 6);
        x.drop(0);
        due("cut after a drop", x.cut(0, 1, 1), 6);
        nodeIs(x, 6, 3, -1, 0, -1, -1, 2, 5, 1, 2, 0);
        for (int t = 7; t < 20; t++) x.cut(0, 1, 1);
        due("FULL", x.cut(0, 1, 1), -4);
        due("NONE comes before FULL", x.cut(20, 1, 1), -1);
    }

    private static void price() {
        promise = "10";
        AskTree x = stepped();
        x.grow(8, 1);
        due("price(0, 0)", x.price(0, 0), 1);
        due("price(0, 1)", x.price(0, 1), 1);
        x.cut(0, 1, 1);
        due("price(1, 0)", x.price(1, 0), 2);
        x.cut(0, 2, 1);
        due("price(2, 0)", x.price(2, 0), 3);
        int[][] bad = {{3, 0}, {-1, 0}, {0, 2}, {0, -1}, {HIGH, 0}, {0, LOW}};
        for (int[] b : bad) due("price of no such thing", x.price(b[0], b[1]), -1);
        x.cut(0, 100, 1);
        due("price of one leaf", x.price(3, 0), -1);
        due("price of one leaf", x.price(3, 1), -1);
        // a question that gains purity, but mends nothing: its price is 0 / 1
        AskTree free = withCases(new int[][] {{0, 1, 0}, {0, 1, 0}, {0, 2, 0}, {0, 2, 0}, {1, 2, 0}});
        free.grow(1, 1);
        due("leaves", free.tree(0, 1), 2);
        due("price(0, 0)", free.price(0, 0), 0);
        due("price(0, 1)", free.price(0, 1), 1);
        free.cut(0, 0, 1);
        due("cut at 0", free.tree(1, 1), 1);
        // four against two in a row of three leaves: 2 wrong for 2 leaves, in lowest terms
        AskTree low = withCases(new int[][] {{0, 1, 0}, {0, 2, 0}, {1, 3, 0}, {1, 4, 0}, {0, 5, 0}, {0, 6, 0}});
        low.grow(2, 1);
        due("leaves", low.tree(0, 1), 3);
        due("price(0, 0)", low.price(0, 0), 1);
        due("price(0, 1)", low.price(0, 1), 1);
        low.best(2);
        AskTree third = withCases(new int[][] {{0, 0, 0}, {1, 1, 0}, {1, 0, 1}, {0, 1, 1}});
        third.best(2);
        due("price(0, 0)", third.price(0, 0), 2);
        due("price(0, 1)", third.price(0, 1), 3);
        third.cut(0, 2, 3);
        due("cut at the price", third.tree(1, 1), 1);
        third.cut(0, 6665, 10000);
        due("cut just below it", third.tree(2, 1), 4);
    }

    private static void folds() {
        promise = "11";
        AskTree x = withCases(new int[][] {{0, 1, 0}, {0, 1, 0}, {1, 11, 0}, {1, 11, 0}});
        due("each fold learned from the other", x.folds(2, 1, 1), 0);
        due("each case alone", x.folds(4, 1, 1), 0);
        due("more folds than cases", x.folds(10, 1, 1), 0);
        due("no question", x.folds(2, 0, 1), 2);
        due("each case without its like", x.folds(4, 0, 1), 4);
        due("too few for a question", x.folds(2, 1, 2), 2);
        due("trees", x.count(1), 0);
        due("said()", x.said(), -1);
        int[][] bad = {{1, 1, 1}, {11, 1, 1}, {2, -1, 1}, {2, 9, 1}, {2, 1, 0}, {2, 1, 101}, {0, 1, 1}, {LOW, 1, 1}, {HIGH, 1, 1}};
        for (int[] b : bad) due("folds not as said", x.folds(b[0], b[1], b[2]), -1);
        due("folds without cases", new AskTree().folds(10, 8, 100), 0);
        for (int t = 0; t < 20; t++) x.grow(1, 1);
        due("folds with twenty trees", x.folds(2, 1, 1), 0);
        due("tree(19, 1)", x.tree(19, 1), 2);
        due("cases", x.count(0), 4);
    }

    private static void remove() {
        promise = "12";
        AskTree x = stepped();
        due("remove()", x.remove(), -1);
        x.grow(8, 1);
        x.grow(0, 1);
        due("remove()", x.remove(), 1);
        due("the tree that is gone", x.tree(1, 0), -1);
        due("the tree that is left", x.tree(0, 1), 4);
        due("grow", x.grow(1, 1), 1);
        due("leaves of the new one", x.tree(1, 1), 2);
        due("remove()", x.remove(), 1);
        due("remove()", x.remove(), 0);
        due("remove()", x.remove(), -1);
        due("count(1)", x.count(1), 0);
        AskTree y = withCases(new int[][] {{0, 1, 0}, {1, 2, 0}});
        y.grow(1, 1);
        y.remove();
        y.grow(0, 1);
        nodeIs(y, 0, 0, -1, 0, -1, -1, 0, 2, 1, 0, 0);
        due("the node that is gone", y.node(0, 1, 5), -1);
    }

    private static void tree() {
        promise = "13";
        AskTree x = stepped();
        x.grow(1, 1);
        int[] want = {3, 2, 1, 3, 10, 3};
        for (int what = 0; what < 6; what++) due("tree(0, " + what + ")", x.tree(0, what), want[what]);
        put(x, 2, 3, 0);
        put(x, 2, GAP, 0);
        put(x, 0, GAP, 0);
        // of ten cases four answered YES: gaps are led to NO, where class 2 is told
        due("cases it was made of stay", x.tree(0, 4), 10);
        due("wrong stays", x.tree(0, 3), 3);
        due("wrong of the cases now", x.tree(0, 5), 5);
        int[][] bad = {{0, 6}, {0, -1}, {1, 0}, {-1, 0}, {HIGH, 0}, {LOW, 0}, {0, HIGH}, {0, LOW}};
        for (int[] b : bad) due("tree of no such thing", x.tree(b[0], b[1]), -1);
        while (x.count(0) > 0) x.drop(0);
        due("wrong without cases", x.tree(0, 5), 0);
        due("cases it was made of stay", x.tree(0, 4), 10);
        due("said()", x.said(), -1);
    }

    private static void node() {
        promise = "14";
        AskTree x = stepped();
        x.grow(8, 1);
        nodeIs(x, 0, 0, 0, 4, 1, 2, 2, 10, 6, 0, 0);
        nodeIs(x, 0, 1, -1, 0, -1, -1, 0, 3, 0, 1, 0);
        nodeIs(x, 0, 2, 0, 15, 3, 6, 2, 7, 3, 1, 1);
        nodeIs(x, 0, 3, 0, 11, 4, 5, 2, 5, 1, 2, 0);
        nodeIs(x, 0, 4, -1, 0, -1, -1, 1, 1, 0, 3, 0);
        nodeIs(x, 0, 5, -1, 0, -1, -1, 2, 4, 0, 3, 0);
        nodeIs(x, 0, 6, -1, 0, -1, -1, 3, 2, 0, 2, 0);
        int[][] bad = {{0, 7, 4}, {0, -1, 4}, {1, 0, 4}, {-1, 0, 4}, {0, 0, 9}, {0, 0, -1}, {0, HIGH, 4}, {0, LOW, 4}, {HIGH, 0, 4}};
        for (int[] b : bad) due("node of no such thing", x.node(b[0], b[1], b[2]), -1);
        // all this is told of the cases that the tree was made of
        while (x.count(0) > 0) x.drop(0);
        nodeIs(x, 0, 0, 0, 4, 1, 2, 2, 10, 6, 0, 0);
        AskTree tie = withCases(new int[][] {{3, 0, 0}, {2, 0, 0}});
        tie.grow(8, 1);
        nodeIs(tie, 0, 0, -1, 0, -1, -1, 2, 2, 1, 0, 0);
    }

    private static void share() {
        promise = "15";
        AskTree x = stepped();
        x.grow(8, 1);
        int[] top = {3, 1, 4, 2};
        int[] third = {0, 1, 4, 0};
        for (int c = 0; c < 4; c++) {
            due("share(0, 0, " + c + ")", x.share(0, 0, c), top[c]);
            due("share(0, 3, " + c + ")", x.share(0, 3, c), third[c]);
        }
        int[][] bad = {{0, 7, 0}, {0, -1, 0}, {1, 0, 0}, {-1, 0, 0}, {0, 0, 4}, {0, 0, -1}, {0, HIGH, 0}, {0, 0, LOW}};
        for (int[] b : bad) due("share of no such thing", x.share(b[0], b[1], b[2]), -1);
    }

    private static void say() {
        promise = "16";
        AskTree x = stepped();
        x.grow(8, 1);
        int[][] verdicts = {{-1000, 0}, {3, 0}, {4, 1}, {10, 1}, {11, 2}, {14, 2}, {15, 3}, {1000, 3}, {GAP, 2}};
        for (int[] v : verdicts) due("say of " + v[0], x.say(0, pair(v[0], GAP), 0, 0, 0), v[1]);
        due("no such tree", x.say(1, 0, 0, 0, 0), -1);
        due("no such tree", x.say(-1, 0, 0, 0, 0), -1);
        due("a mark not as said", x.say(0, 0, 0, 0, 1001), -1);
        due("a mark not as said", x.say(0, pair(-1001, 0), 0, 0, 0), -1);
        AskTree s = new AskTree();
        s.sort(1, 1);
        put(s, 0, 0, 4);
        put(s, 1, 0, 5);
        put(s, 1, 0, 6);
        s.grow(8, 1);
        due("a sort that is v", s.say(0, pair(0, 4), 0, 0, 0), 0);
        due("a sort that is less", s.say(0, pair(0, 3), 0, 0, 0), 1);
        due("a gap", s.say(0, pair(0, GAP), 0, 0, 0), 1);
    }

    private static void said() {
        promise = "17";
        AskTree x = stepped();
        x.grow(8, 1);
        due("said()", x.said(), -1);
        x.say(5, 0, 0, 0, 0);
        due("after a refused say()", x.said(), -1);
        x.say(0, pair(12, 0), 0, 0, 0);
        due("said()", x.said(), 5);
        x.say(0, pair(2000, 0), 0, 0, 0);
        x.vote(0, 0, 0, 0);
        x.near(0, 0, 0, 0, 0);
        x.tree(0, 5);
        x.folds(2, 3, 1);
        due("others change nothing", x.said(), 5);
        x.remove();
        due("when the tree is gone", x.said(), 5);
    }

    private static void vote() {
        promise = "18";
        AskTree x = stepped();
        due("vote without trees", x.vote(0, 0, 0, 0), -1);
        x.grow(8, 1);
        x.grow(0, 1);
        due("one each: the least", x.vote(pair(1, 0), 0, 0, 0), 0);
        due("one each: the least", x.vote(pair(15, 0), 0, 0, 0), 2);
        x.grow(1, 1);
        due("two against one", x.vote(pair(1, 0), 0, 0, 0), 0);
        due("three", x.vote(pair(12, 0), 0, 0, 0), 2);
        due("one against two", x.vote(pair(4, 0), 0, 0, 0), 2);
        due("two of three", x.vote(pair(15, 0), 0, 0, 0), 2);
        due("a mark not as said", x.vote(0, 0, pair(0, -1001), 0), -1);
        due("gaps", x.vote(pair(GAP, GAP), pair(GAP, GAP), pair(GAP, GAP), pair(GAP, GAP)), 2);
    }

    private static void voices() {
        promise = "19";
        AskTree x = stepped();
        due("voices()", x.voices(), -1);
        x.vote(0, 0, 0, 0);
        due("after a refused vote()", x.voices(), -1);
        x.grow(8, 1);
        x.grow(0, 1);
        x.vote(pair(1, 0), 0, 0, 0);
        due("voices()", x.voices(), 1);
        x.grow(1, 1);
        x.vote(pair(12, 0), 0, 0, 0);
        due("voices()", x.voices(), 3);
        x.vote(pair(4, 0), 0, 0, 0);
        due("voices()", x.voices(), 2);
        x.vote(pair(12, 0), 0, 0, 1001);
        due("after a refused vote()", x.voices(), 2);
        x.say(0, pair(12, 0), 0, 0, 0);
        due("after a say()", x.voices(), 2);
        x.remove();
        due("when a tree is gone", x.voices(), 2);
    }

    private static AskTree sorted() {
        AskTree x = new AskTree();
        x.sort(0, 1);
        int[][] cases = {{0, 0, 0}, {0, 0, 0}, {0, 0, 0}, {1, 1, 0}, {1, 1, 0}, {2, 2, 0}, {3, 3, 0}, {3, 3, 9}};
        for (int[] c : cases) put(x, c[0], c[1], c[2]);
        x.grow(8, 1);
        return x;
    }

    private static void rule() {
        promise = "20";
        AskTree x = stepped();
        x.grow(8, 1);
        int[][] bounds = {{1, -1000, 3}, {4, 4, 10}, {5, 11, 14}, {6, 15, 1000}};
        for (int[] b : bounds) {
            due("least of leaf " + b[0], x.rule(0, b[0], 0, 0), b[1]);
            due("greatest of leaf " + b[0], x.rule(0, b[0], 0, 1), b[2]);
            due("a mark not asked for", x.rule(0, b[0], 5, 0), -1000);
            due("a mark not asked for", x.rule(0, b[0], 5, 1), 1000);
        }
        int[][] bad = {
            {0, 0, 0, 0}, {0, 3, 0, 0}, {0, 7, 0, 0}, {0, -1, 0, 0}, {1, 0, 0, 0}, {-1, 1, 0, 0},
            {0, 1, 8, 0}, {0, 1, -1, 0}, {0, 1, 0, 2}, {0, 1, 0, -1}, {0, HIGH, 0, 0}, {0, 1, LOW, 0}
        };
        for (int[] b : bad) due("rule of no such thing", x.rule(b[0], b[1], b[2], b[3]), REFUSED);
        AskTree s = sorted();
        due("nodes", s.tree(0, 0), 7);
        int[][] sorts = {{1, 0, 0}, {3, 1, 0}, {5, 2, 0}, {6, -2000, 3}};
        for (int[] r : sorts) {
            due("what leaf " + r[0] + " must be", s.rule(0, r[0], 0, 0), r[1]);
            due("what leaf " + r[0] + " must not be", s.rule(0, r[0], 0, 1), r[2]);
        }
        AskTree one = new AskTree();
        one.sort(3, 1);
        one.grow(0, 1);
        due("a sort not asked for", one.rule(0, 0, 3, 0), -2000);
        due("a sort not asked for", one.rule(0, 0, 3, 1), 0);
    }

    private static void near() {
        promise = "21";
        AskTree x = stepped();
        x.grow(8, 1);
        due("near", x.near(0, pair(10, 0), 0, 0, 0), 1);
        due("moved least, to the next leaf", x.turned(0), 11);
        due("near", x.near(0, pair(5, 0), 0, 0, 0), 1);
        due("moved least, to the leaf before", x.turned(0), 3);
        due("no such tree", x.near(1, 0, 0, 0, 0), -1);
        due("no such tree", x.near(-1, 0, 0, 0, 0), -1);
        due("a mark not as said", x.near(0, 0, 1001, 0, 0), -1);
        for (int m = 0; m < 8; m++) {
            int[] told = new int[4];
            told[m / 2] = m % 2 == 0 ? pair(GAP, 0) : pair(0, GAP);
            due("a gap at " + m, x.near(0, told[0], told[1], told[2], told[3]), -1);
        }
        x.grow(0, 1);
        due("no other verdict", x.near(1, 0, 0, 0, 0), 0);
        AskTree y = withCases(new int[][] {{0, 0, 0}, {1, 1, 0}, {1, 0, 1}, {2, 1, 1}});
        y.grow(2, 1);
        due("near", y.near(0, pair(-500, 0), 0, 0, 0), 1);
        due("the mark that moves least", y.turned(0), -500);
        due("the mark that moves least", y.turned(1), 1);
        AskTree tie = withCases(new int[][] {{0, 0, 0}, {0, 1, 0}, {1, 4, 0}, {1, 5, 0}, {2, 11, 0}, {2, 12, 0}});
        tie.grow(8, 1);
        due("as far on both sides", tie.near(0, pair(7, 0), 0, 0, 0), 1);
        due("the first leaf", tie.turned(0), 3);
        due("one nearer", tie.near(0, pair(8, 0), 0, 0, 0), 1);
        due("the nearer leaf", tie.turned(0), 11);
        fewestBeforeNearest();
        sortsAreNotMoved();
    }

    /** From (0, 0) both marks must move by 1 for class 1, but one of them alone, by 1000, does it for class 2. */
    private static void fewestBeforeNearest() {
        AskTree x = withCases(new int[][] {
            {2, 1000, 0}, {2, 1000, 0}, {2, 1000, 1}, {2, 1000, 1}, {1, 1, 1}, {1, 1, 1}, {1, 1, 1},
            {0, 0, 0}, {0, 0, 0}, {0, 0, 0}, {0, 1, 0}, {0, 0, 1}, {0, 0, 0}
        });
        x.grow(3, 1);
        due("wrong", x.tree(0, 3), 0);
        due("near", x.near(0, pair(0, 0), 0, 0, 0), 1);
        due("one mark far", x.turned(0), 1000);
        due("the other stays", x.turned(1), 0);
    }

    /** From (9, 0) the number must move by 1 for class 1, the sort must change for class 2: the sort is the least. */
    private static void sortsAreNotMoved() {
        AskTree x = new AskTree();
        x.sort(1, 1);
        int[][] cases = {{1, 0, 0}, {1, 0, 0}, {1, 0, 0}, {1, 0, 0}, {2, 9, 900}, {2, 9, 900}, {0, 9, 0}, {0, 9, 0}};
        for (int[] c : cases) put(x, c[0], c[1], c[2]);
        x.grow(2, 1);
        nodeIs(x, 0, 0, 0, 9, 1, 2);
        nodeIs(x, 0, 2, 1, 0, 3, 4);
        due("near", x.near(0, pair(9, 0), 0, 0, 0), 1);
        due("the number stays", x.turned(0), 9);
        due("the sort turns", x.turned(1), 1);
    }

    private static void turned() {
        promise = "22";
        AskTree x = stepped();
        x.grow(8, 1);
        due("turned before any near()", x.turned(0), REFUSED);
        x.grow(0, 1);
        x.near(1, 0, 0, 0, 0);
        due("turned after a near() of 0", x.turned(0), REFUSED);
        x.near(0, pair(12, -3), pair(1, 2), 0, pair(0, 7));
        int[] want = {10, -3, 1, 2, 0, 0, 0, 7};
        for (int m = 0; m < 8; m++) due("turned(" + m + ")", x.turned(m), want[m]);
        x.near(1, 0, 0, 0, 0);
        x.near(0, pair(GAP, 0), 0, 0, 0);
        due("the latest near() above 0 stays", x.turned(0), 10);
        int[] bad = {8, -1, HIGH, LOW};
        for (int m : bad) due("turned of no such mark", x.turned(m), REFUSED);
        x.remove();
        x.remove();
        due("when the trees are gone", x.turned(0), 10);
        AskTree s = new AskTree();
        s.sort(0, 1);
        int[][] cases = {{0, 0, 0}, {0, 0, 0}, {0, 0, 0}, {0, 1, 0}, {0, 1, 0}, {1, 5, 0}, {1, 6, 0}, {1, 7, 0}, {1, 8, 0}, {1, 9, 0}};
        for (int[] c : cases) put(s, c[0], c[1], c[2]);
        s.grow(8, 1);
        due("near", s.near(0, pair(0, 0), 0, 0, 0), 1);
        due("a sort: the least from 0 on that it may be", s.turned(0), 2);
        due("near", s.near(0, pair(-5, 0), 0, 0, 0), 1);
        due("a sort: the number that it must be", s.turned(0), 0);
    }

    private static void count() {
        promise = "23";
        AskTree x = stepped();
        x.grow(1, 1);
        x.best(1);
        due("count(0)", x.count(0), 10);
        due("count(1)", x.count(1), 2);
        int[] bad = {2, -1, HIGH, LOW};
        for (int what : bad) due("count of no such thing", x.count(what), -1);
    }

    public static void main(String[] args) {
        newObject();
        sort();
        add();
        drop();
        mark();
        cls();
        grow();
        best();
        cut();
        price();
        folds();
        remove();
        tree();
        node();
        share();
        say();
        said();
        vote();
        voices();
        rule();
        near();
        turned();
        count();
        System.out.println(wrong == 0 ? "all promises are kept" : wrong + " answers are not as due");
        if (wrong != 0) System.exit(1);
    }
}
