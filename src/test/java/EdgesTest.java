/** The sentences of promises 1 to 23 that name a boundary, each with a test of its own. */
public final class EdgesTest extends Sentences {
    public static void main(String[] args) throws IllegalAccessException {
        run(EdgesTest.class);
    }

    /** Class by steps of mark 0: 0 below 4, 1 below 11, 2 below 15, 3 from there on. Leaves 1, 4, 5, 6 when grown whole. */
    private static AskTree steps() {
        return of(
            new int[] {0, 1}, new int[] {0, 2}, new int[] {0, 3}, new int[] {1, 4}, new int[] {2, 11}, new int[] {2, 12},
            new int[] {2, 13}, new int[] {2, 14}, new int[] {3, 15}, new int[] {3, 16});
    }

    /** Both marks are needed: 0 wrong with three questions, 2 with fewer. */
    private static AskTree cross() {
        return of(new int[] {0, 0, 0}, new int[] {1, 1, 0}, new int[] {1, 0, 1}, new int[] {0, 1, 1});
    }

    /** Mark 0 is a SORT: class 0 where it is 0 .. 7, once each; class 1 where it is another. Asked for in turn. */
    private static AskTree sortChain(int first) {
        AskTree x = new AskTree();
        x.sort(0, 1);
        for (int v = first; v < first + 8; v++) add(x, 0, v);
        for (int i = 0; i < 20; i++) add(x, 1, 100 + i);
        return x;
    }

    private static void refusedMarks(String call, int want, java.util.function.Function<int[], Integer> answer) {
        for (int m = 0; m < 8; m++) {
            for (int bad : BAD_MARKS) due(call + " with mark " + m + " of " + bad, answer.apply(allBut(3, m, bad)), want);
        }
    }

    // ---- 1: a new object

    static void p01NoCases() {
        says("No cases");
        AskTree x = new AskTree();
        due("count(0)", x.count(0), 0);
        due("cls(0)", x.cls(0), NONE);
        due("drop(0)", x.drop(0), NONE);
        for (int m = 0; m < 8; m++) due("mark(0, " + m + ")", x.mark(0, m), NO_SUCH);
        due("add", add(x, 0), 0);
    }

    static void p01NoTrees() {
        says("no trees");
        AskTree x = new AskTree();
        due("count(1)", x.count(1), 0);
        due("remove()", x.remove(), NONE);
        for (int what = 0; what < 6; what++) due("tree(0, " + what + ")", x.tree(0, what), NONE);
        for (int what = 0; what < 9; what++) due("node(0, 0, " + what + ")", x.node(0, 0, what), NONE);
        due("share(0, 0, 0)", x.share(0, 0, 0), NONE);
        due("say", say(x, 0), NONE);
        due("vote", vote(x), NONE);
        due("cut", x.cut(0, 0, 1), NONE);
        due("price", x.price(0, 0), NONE);
        due("rule", x.rule(0, 0, 0, 0), NO_SUCH);
        due("near", near(x, 0), NONE);
        due("grow", x.grow(0, 1), 0);
    }

    static void p01AllMarksAreNumbers() {
        says("all marks are NUMBERS");
        AskTree x = new AskTree();
        for (int m = 0; m < 8; m++) due("sort(" + m + ", 0)", x.sort(m, 0), 0);
        for (int m = 0; m < 8; m++) {
            AskTree y = new AskTree();
            add(y, 0, allBut(0, m, 1));
            add(y, 1, allBut(0, m, 5));
            y.grow(1, 1);
            due("a number between them", say(y, 0, allBut(0, m, 4)), 0);
            due("a number behind them", say(y, 0, allBut(0, m, 9)), 1);
        }
    }

    // ---- 2: sort

    static void p02WhatItWas() {
        says("A MARK becomes a NUMBER (0) or a SORT (1): what it was");
        for (int m = 0; m < 8; m++) {
            AskTree x = new AskTree();
            int[][] turns = {{1, 0}, {1, 1}, {0, 1}, {0, 0}, {1, 0}};
            for (int[] t : turns) {
                due("sort(" + m + ", " + t[0] + ")", x.sort(m, t[0]), t[1]);
            }
            for (int other = 0; other < 8; other++) due("sort(" + other + ", 0)", x.sort(other, 0), other == m ? 1 : 0);
        }
    }

    static void p02NoSuchMarkOrHow() {
        says("NONE: no such mark, how");
        AskTree x = new AskTree();
        x.sort(7, 1);
        refused("sort(.., 0)", NONE, 0, 7, m -> x.sort(m, 0));
        refused("sort(.., 1)", NONE, 0, 7, m -> x.sort(m, 1));
        for (int m = 0; m < 8; m++) {
            int mark = m;
            refused("sort(" + m + ", ..)", NONE, 0, 1, how -> x.sort(mark, how));
        }
        for (int m = 0; m < 8; m++) due("sort(" + m + ", 0)", x.sort(m, 0), m == 7 ? 1 : 0);
    }

    static void p02WithCases() {
        says("or there are cases");
        AskTree x = new AskTree();
        x.sort(3, 1);
        add(x, 0);
        for (int m = 0; m < 8; m++) {
            due("sort(" + m + ", 0)", x.sort(m, 0), NONE);
            due("sort(" + m + ", 1)", x.sort(m, 1), NONE);
        }
        x.drop(0);
        for (int m = 0; m < 8; m++) due("sort(" + m + ", 0)", x.sort(m, 0), m == 3 ? 1 : 0);
    }

    static void p02WithTrees() {
        says("or trees");
        AskTree x = new AskTree();
        x.sort(3, 1);
        x.grow(0, 1);
        for (int m = 0; m < 8; m++) {
            due("sort(" + m + ", 0)", x.sort(m, 0), NONE);
            due("sort(" + m + ", 1)", x.sort(m, 1), NONE);
        }
        add(x, 0);
        due("sort with both", x.sort(3, 0), NONE);
        x.remove();
        due("sort with a case still", x.sort(3, 0), NONE);
        x.drop(0);
        for (int m = 0; m < 8; m++) due("sort(" + m + ", 0)", x.sort(m, 0), m == 3 ? 1 : 0);
    }

    static void p02IsKept() {
        says("A MARK becomes a NUMBER (0) or a SORT (1)");
        for (int m = 0; m < 8; m++) {
            AskTree x = new AskTree();
            x.sort(m, 1);
            for (int v = 1; v <= 3; v++) add(x, v == 2 ? 1 : 0, allBut(0, m, v));
            x.grow(1, 1);
            nodeIs(x, 0, 0, m, 2, 1, 2, 0, 3, 1, 0, 0);
            due("WRONG", x.tree(0, 3), 0);
        }
    }

    // ---- 3: add

    static void p03ItsNumber() {
        says("A new CASE, its eight MARKS told in a, b, c, d: its number");
        AskTree x = new AskTree();
        due("the first", add(x, 3, -1000, 1000, GAP, 0, 1, -1, GAP, 1000), 0);
        int[] marks = {-1000, 1000, GAP, 0, 1, -1, GAP, 1000};
        for (int m = 0; m < 8; m++) due("mark(0, " + m + ")", x.mark(0, m), marks[m]);
        due("the same once more", add(x, 3, -1000, 1000, GAP, 0, 1, -1, GAP, 1000), 1);
        x.drop(0);
        due("after a drop", add(x, 0), 1);
        due("all gaps", x.add(2, LOW + 32768, LOW + 32768, LOW + 32768, LOW + 32768), 2);
    }

    static void p03NoSuchClass() {
        says("NONE: no such class");
        AskTree x = new AskTree();
        refused("add", NONE, 0, 3, c -> x.add(c, 0, 0, 0, 0));
        due("count(0)", x.count(0), 0);
        due("class 0", add(x, 0), 0);
        due("class 3", add(x, 3), 1);
    }

    static void p03NoSuchMark() {
        says("a mark is neither -1000 .. 1000 nor a GAP");
        AskTree x = new AskTree();
        refusedMarks("add", NONE, marks -> add(x, 0, marks));
        due("count(0)", x.count(0), 0);
        AskTree y = of(new int[] {1, 5});
        refusedMarks("add", NONE, marks -> add(y, 0, marks));
        due("count(0)", y.count(0), 1);
        due("mark(0, 0)", y.mark(0, 0), 5);
    }

    static void p03Full() {
        says("FULL");
        AskTree x = new AskTree();
        for (int i = 0; i < 299; i++) add(x, 0, i);
        due("the 300th", add(x, 2, 999), 299);
        due("the 301st", add(x, 3, 5), FULL);
        due("once more", add(x, 3, 5), FULL);
        due("mark(299, 0)", x.mark(299, 0), 999);
        due("cls(299)", x.cls(299), 2);
        due("drop(299)", x.drop(299), 299);
        due("the 300th again", add(x, 3, 5), 299);
        due("cls(299)", x.cls(299), 3);
    }

    // ---- 4: drop

    static void p04ThoseBehindHaveANumberLess() {
        says("A CASE goes, those behind it have a number less: how many are left");
        for (int gone = 0; gone < 5; gone++) {
            AskTree x = new AskTree();
            for (int i = 0; i < 5; i++) add(x, i % 4, i, -i, i + 10, i + 20, i + 30, i + 40, i + 50, i + 60);
            due("drop(" + gone + ")", x.drop(gone), 4);
            for (int i = 0; i < 4; i++) {
                int was = i < gone ? i : i + 1;
                due("cls(" + i + ")", x.cls(i), was % 4);
                int[] marks = {was, -was, was + 10, was + 20, was + 30, was + 40, was + 50, was + 60};
                for (int m = 0; m < 8; m++) due("mark(" + i + ", " + m + ")", x.mark(i, m), marks[m]);
            }
            due("cls(4)", x.cls(4), NONE);
            due("mark(4, 0)", x.mark(4, 0), NO_SUCH);
        }
    }

    static void p04OfOneAndOfNone() {
        says("how many are left. NONE");
        AskTree x = of(new int[] {3, 7});
        due("drop(0) of one", x.drop(0), 0);
        due("drop(0) of none", x.drop(0), NONE);
        due("add", add(x, 1, 8), 0);
        due("mark(0, 0)", x.mark(0, 0), 8);
    }

    static void p04NoSuchCase() {
        says("NONE");
        AskTree none = new AskTree();
        refused("drop", NONE, 0, -1, none::drop);
        AskTree x = of(new int[] {0}, new int[] {1}, new int[] {2});
        refused("drop", NONE, 0, 2, x::drop);
        due("drop(3)", x.drop(3), NONE);
        due("count(0)", x.count(0), 3);
    }

    static void p04OfAFullOne() {
        says("A CASE goes, those behind it have a number less: how many are left");
        for (int gone : new int[] {0, 150, 299}) {
            AskTree x = new AskTree();
            for (int i = 0; i < 300; i++) add(x, i < 150 ? 0 : 1, i);
            due("drop(300)", x.drop(300), NONE);
            due("drop(" + gone + ")", x.drop(gone), 299);
            due("mark(298, 0)", x.mark(298, 0), gone == 299 ? 298 : 299);
            due("drop(299)", x.drop(299), NONE);
            x.grow(8, 1);
            nodeIs(x, 0, 0, 0, gone == 150 ? 151 : 150);
            due("cases", x.tree(0, 4), 299);
        }
    }

    static void p04ATreeOfThoseLeft() {
        says("A CASE goes");
        AskTree x = of(new int[] {0, 1, GAP}, new int[] {1, 2, 5}, new int[] {1, 3, 5}, new int[] {2, 4, 5});
        x.drop(0);
        due("best", x.best(2), 0);
        nodeIs(x, 0, 0, 0, 4, 1, 2, 1, 3, 1, 0, 1);
        // the class 2 of the last one is in its own fold alone
        due("folds", x.folds(2, 8, 1), 1);
    }

    // ---- 5: mark

    static void p05AMarkOfACase() {
        says("A MARK of a case; -32768 if it is a GAP");
        AskTree x = of(new int[] {0, -1000, 1000, -1, 0, 1, GAP, 999, -999}, new int[] {0, GAP, 1, GAP, 2, GAP, 3, GAP, 4});
        int[][] marks = {{-1000, 1000, -1, 0, 1, GAP, 999, -999}, {GAP, 1, GAP, 2, GAP, 3, GAP, 4}};
        for (int i = 0; i < 2; i++) for (int m = 0; m < 8; m++) due("mark(" + i + ", " + m + ")", x.mark(i, m), marks[i][m]);
    }

    static void p05NoSuchCase() {
        says("-40000: there is no such case");
        AskTree none = new AskTree();
        refused("mark(.., 0) without cases", NO_SUCH, 0, -1, i -> none.mark(i, 0));
        AskTree x = of(new int[] {0}, new int[] {1});
        for (int m = 0; m < 8; m++) {
            int mark = m;
            refused("mark(.., " + m + ")", NO_SUCH, 0, 1, i -> x.mark(i, mark));
        }
        AskTree full = new AskTree();
        addMany(full, 300, 0, 4, 4, 4, 4, 4, 4, 4, 4);
        due("mark(299, 7)", full.mark(299, 7), 4);
        refused("mark(.., 7) of 300", NO_SUCH, 0, 299, i -> full.mark(i, 7));
    }

    static void p05NoSuchMark() {
        says("or mark");
        AskTree x = of(new int[] {0, 1, 2, 3, 4, 5, 6, 7, 8}, new int[] {1, 1, 2, 3, 4, 5, 6, 7, 8});
        refused("mark(0, ..)", NO_SUCH, 0, 7, m -> x.mark(0, m));
        refused("mark(1, ..)", NO_SUCH, 0, 7, m -> x.mark(1, m));
    }

    // ---- 6: cls

    static void p06TheClassOfACase() {
        says("The CLASS of a case. NONE");
        AskTree none = new AskTree();
        refused("cls without cases", NONE, 0, -1, none::cls);
        AskTree x = of(new int[] {3}, new int[] {0}, new int[] {2}, new int[] {1});
        int[] classes = {3, 0, 2, 1};
        for (int i = 0; i < 4; i++) due("cls(" + i + ")", x.cls(i), classes[i]);
        refused("cls", NONE, 0, 3, x::cls);
        AskTree full = new AskTree();
        addMany(full, 300, 2);
        due("cls(299)", full.cls(299), 2);
        refused("cls of 300", NONE, 0, 299, full::cls);
    }

    // ---- 7: grow

    static void p07OfAllCases() {
        says("A new tree, GROWN of all cases: its number");
        AskTree x = new AskTree();
        due("without cases", x.grow(8, 1), 0);
        add(x, 3, -5);
        due("of one case", x.grow(8, 1), 1);
        leafIs(x, 1, 0, 3, 1, 0, 0);
        for (int i = 1; i < 300; i++) add(x, i < 100 ? 0 : 1, i < 100 ? i : 100 + i);
        due("of 300 cases", x.grow(8, 1), 2);
        due("cases", x.tree(2, 4), 300);
        due("WRONG", x.tree(2, 3), 0);
        // parted by each mark in turn, as a NUMBER and as a SORT, with gaps and without
        for (int i = 0; i < 32; i++) {
            int m = i / 4, none = i % 2 == 0 ? 5 : GAP;
            AskTree y = new AskTree();
            y.sort(m, i / 2 % 2);
            for (int c = 0; c < 300; c++) add(y, c < 100 ? 1 : 2, allBut(c == 0 ? none : 5, m, c < 100 ? 6 : 7));
            due("grow", y.grow(8, 100), 0);
            nodeIs(y, 0, 0, m, i / 2 % 2 == 0 ? 7 : 6, 1, 2, 2, 300, 100, 0, 0);
            due("WRONG", y.tree(0, 3), 0);
            due("folds", y.folds(10, 8, 90), 0);
        }
    }

    static void p07None() {
        says("NONE");
        AskTree x = steps();
        refused("grow(.., 1)", NONE, 0, 8, d -> x.grow(d, 1));
        refused("grow(1, ..)", NONE, 1, 100, l -> x.grow(1, l));
        due("both", x.grow(-1, 0), NONE);
        due("both", x.grow(9, 101), NONE);
        due("count(1)", x.count(1), 0);
        int[][] good = {{0, 1}, {0, 100}, {8, 1}, {8, 100}};
        for (int i = 0; i < 4; i++) due("grow", x.grow(good[i][0], good[i][1]), i);
    }

    static void p07Full() {
        says("FULL");
        AskTree x = steps();
        for (int t = 0; t < 19; t++) x.grow(0, 1);
        due("the twentieth", x.grow(8, 1), 19);
        due("the 21st", x.grow(0, 1), FULL);
        due("once more", x.grow(8, 100), FULL);
        due("count(1)", x.count(1), 20);
        due("leaves of the twentieth", x.tree(19, 1), 4);
        x.remove();
        due("the twentieth again", x.grow(0, 1), 19);
        due("leaves of the twentieth", x.tree(19, 1), 1);
    }

    // ---- 8: best

    static void p08OfAllCases() {
        says("A new tree, the BEST of all cases: its number");
        AskTree x = new AskTree();
        for (int d = 0; d <= 2; d++) {
            due("without cases", x.best(d), d);
            leafIs(x, d, 0, 0, 0, 0, 0);
        }
        add(x, 2, 1);
        due("of one case", x.best(2), 3);
        leafIs(x, 3, 0, 2, 1, 0, 0);
        add(x, 1, 0);
        due("of two cases", x.best(2), 4);
        nodeIs(x, 4, 0, 0, 1, 1, 2, 1, 2, 1, 0, 1);
    }

    static void p08None() {
        says("NONE");
        AskTree x = cross();
        refused("best", NONE, 0, 2, x::best);
        due("best(3)", x.best(3), NONE);
        due("count(1)", x.count(1), 0);
    }

    static void p08Many() {
        says("MANY (-2): more than 50 cases");
        AskTree x = new AskTree();
        addMany(x, 49, 0, 1);
        due("best of 49", x.best(0), 0);
        add(x, 1, 2);
        due("best of 50", x.best(2), 1);
        due("WRONG", x.tree(1, 3), 0);
        add(x, 1, 2);
        due("best of 51", x.best(2), MANY);
        due("best of 51", x.best(0), MANY);
        due("count(1)", x.count(1), 2);
    }

    static void p08Gaps() {
        says("GAPS (-3): as told");
        AskTree x = cross();
        add(x, 0, 0, 0, 0, 0, 0, 0, 0, GAP);
        due("best(0)", x.best(0), GAPS);
        due("best(2)", x.best(2), GAPS);
        due("grow takes them", x.grow(1, 1), 0);
        x.drop(4);
        due("best without it", x.best(2), 1);
    }

    static void p08Full() {
        says("FULL (-4): .. 20 trees");
        AskTree x = cross();
        for (int t = 0; t < 19; t++) x.best(0);
        due("the twentieth", x.best(2), 19);
        due("the 21st", x.best(0), FULL);
        due("leaves of the twentieth", x.tree(19, 1), 4);
        x.remove();
        due("the twentieth again", x.best(1), 19);
    }

    // ---- 9: cut

    static void p09ATreeCut() {
        says("A new tree: a tree CUT at p / q (p 0 .. 10000, q 1 .. 10000): its number");
        AskTree x = steps();
        x.grow(8, 1);
        // the prices of its questions are 1, then 2, then 3: {p, q, leaves}
        int[][] cuts = {
            {0, 1, 4}, {0, 10000, 4}, {1, 10000, 4}, {9999, 10000, 4}, {10000, 10000, 3}, {1, 1, 3}, {10000, 5001, 3}, {10000, 5000, 2},
            {2, 1, 2}, {9999, 3334, 2}, {10000, 3333, 1}, {10000, 1, 1}
        };
        for (int i = 0; i < cuts.length; i++) {
            due("cut", x.cut(0, cuts[i][0], cuts[i][1]), i + 1);
            due("leaves at " + cuts[i][0] + " / " + cuts[i][1], x.tree(i + 1, 1), cuts[i][2]);
        }
    }

    static void p09TheTreeItselfStays() {
        says("A new tree");
        AskTree x = steps();
        x.grow(8, 1);
        x.cut(0, 10000, 1);
        due("nodes of the tree", x.tree(0, 0), 7);
        due("nodes of the cut tree", x.tree(1, 0), 1);
        x.cut(1, 0, 1);
        due("nodes of a leaf cut", x.tree(2, 0), 1);
        leafIs(x, 2, 0, 2, 10, 6, 0);
    }

    static void p09OfCasesThatAreGone() {
        says("A new tree: a tree CUT");
        AskTree x = steps();
        x.grow(8, 1);
        for (int i = 0; i < 10; i++) x.drop(0);
        x.cut(0, 1, 1);
        nodeIs(x, 1, 0, 0, 4, 1, 2, 2, 10, 6, 0, 0);
        leafIs(x, 1, 1, 0, 3, 0, 1);
        nodeIs(x, 1, 2, 0, 15, 3, 4, 2, 7, 3, 1, 1);
        leafIs(x, 1, 3, 2, 5, 1, 2);
        leafIs(x, 1, 4, 3, 2, 0, 2);
        due("cases", x.tree(1, 4), 10);
        due("WRONG", x.tree(1, 3), 1);
    }

    static void p09OfTheGreatestDepth() {
        says("A new tree: a tree CUT at p / q");
        AskTree x = TermsTest.chain();
        x.grow(8, 1);
        x.cut(0, 0, 1);
        due("DEPTH", x.tree(1, 2), 8);
        due("nodes", x.tree(1, 0), 17);
        leafIs(x, 1, 16, 1, 1, 0, 8);
    }

    static void p09None() {
        says("NONE");
        AskTree x = steps();
        refused("cut of no tree", NONE, 0, -1, t -> x.cut(t, 1, 1));
        x.grow(8, 1);
        x.grow(8, 1);
        x.remove();
        refused("cut(.., 1, 1)", NONE, 0, 0, t -> x.cut(t, 1, 1));
        refused("cut(0, .., 1)", NONE, 0, 10000, p -> x.cut(0, p, 1));
        refused("cut(0, 1, ..)", NONE, 1, 10000, q -> x.cut(0, 1, q));
        due("count(1)", x.count(1), 1);
    }

    static void p09Full() {
        says("FULL");
        AskTree x = steps();
        x.grow(8, 1);
        for (int t = 1; t < 19; t++) x.cut(0, 1, 1);
        due("the twentieth", x.cut(0, 2, 1), 19);
        due("the 21st", x.cut(19, 2, 1), FULL);
        due("leaves of the twentieth", x.tree(19, 1), 2);
        x.remove();
        due("the twentieth again", x.cut(18, 10000, 1), 19);
        due("leaves of the twentieth", x.tree(19, 1), 1);
    }

    // ---- 10: price

    private static void priceIs(AskTree x, int tree, int upper, int lower) {
        due("price(" + tree + ", 0)", x.price(tree, 0), upper);
        due("price(" + tree + ", 1)", x.price(tree, 1), lower);
    }

    static void p10TheLeastPrice() {
        says("The least price at which a tree, CUT, has fewer leaves");
        AskTree x = steps();
        x.grow(8, 1);
        priceIs(x, 0, 1, 1);
        x.cut(0, 1, 1);
        priceIs(x, 1, 2, 1);
        x.cut(0, 2, 1);
        priceIs(x, 2, 3, 1);
        // here the topmost question is the first to go
        AskTree y = cross();
        y.best(2);
        priceIs(y, 0, 2, 3);
        y.cut(0, 2, 3);
        due("leaves at that price", y.tree(1, 1), 1);
        y.cut(0, 6666, 10000);
        due("leaves just below it", y.tree(2, 1), 4);
        AskTree z = TermsTest.fullest();
        z.grow(8, 1);
        int upper = z.price(0, 0), lower = z.price(0, 1);
        z.cut(0, upper, lower);
        due("a full tree at its price has fewer leaves", z.tree(1, 1) < 256 ? 1 : 0, 1);
        z.cut(0, upper * 1000 - 1, lower * 1000);
        due("leaves just below it", z.tree(2, 1), 256);
    }

    static void p10InLowestTerms() {
        says("in lowest terms");
        // the topmost question mends none, both together 4 wrong for 2 leaves more: 2 / 1
        AskTree x = new AskTree();
        addMany(x, 4, 0, 1);
        addMany(x, 4, 1, 2);
        addMany(x, 4, 0, 3);
        x.best(2);
        due("leaves", x.tree(0, 1), 3);
        priceIs(x, 0, 2, 1);
        // 6 wrong for 3 leaves more, of four crossed corners with three cases each
        AskTree y = new AskTree();
        for (int i = 0; i < 3; i++) into(y, new int[] {0, 0, 0}, new int[] {1, 1, 0}, new int[] {1, 0, 1}, new int[] {0, 1, 1});
        y.best(2);
        priceIs(y, 0, 2, 1);
        // the greatest: half of 300 cases
        AskTree z = new AskTree();
        addMany(z, 150, 0, 1);
        addMany(z, 150, 1, 2);
        z.grow(1, 100);
        priceIs(z, 0, 150, 1);
    }

    static void p10OfNothing() {
        says("its upper number (what 0), its lower one (1; 1 if it is 0)");
        AskTree x = of(new int[] {0, 1}, new int[] {0, 1}, new int[] {0, 2}, new int[] {0, 2}, new int[] {1, 2});
        x.grow(1, 1);
        priceIs(x, 0, 0, 1);
        // two questions, of which neither mends: 0 / 2
        add(x, 1, 3);
        addMany(x, 3, 0, 3);
        x.grow(8, 1);
        due("WRONG", x.tree(1, 3), x.node(1, 0, 6));
        due("DEPTH", x.tree(1, 2), 2);
        priceIs(x, 1, 0, 1);
    }

    static void p10NoSuchTreeOrWhat() {
        says("NONE: no such tree, what");
        AskTree x = steps();
        refused("price(.., 0) without trees", NONE, 0, -1, t -> x.price(t, 0));
        x.grow(8, 1);
        refused("price(.., 0)", NONE, 0, 0, t -> x.price(t, 0));
        refused("price(.., 1)", NONE, 0, 0, t -> x.price(t, 1));
        refused("price(0, ..)", NONE, 0, 1, what -> x.price(0, what));
    }

    static void p10OneLeaf() {
        says("or it has one leaf");
        AskTree x = steps();
        x.grow(0, 1);
        priceIs(x, 0, NONE, NONE);
        x.grow(1, 1);
        priceIs(x, 1, 3, 1);
        AskTree none = new AskTree();
        none.grow(8, 1);
        priceIs(none, 0, NONE, NONE);
    }

    // ---- 11: folds

    /** All of class 0, but the first and another, which alone have 1 as a mark. */
    private static AskTree twoAlike(int count, int other) {
        AskTree x = new AskTree();
        for (int i = 0; i < count; i++) add(x, i == 0 || i == other ? 1 : 0, i == 0 || i == other ? 1 : 0);
        return x;
    }

    static void p11ByTheRestOfTheirNumber() {
        says("The cases parted into k (2 .. 10) FOLDS, by the rest of their number by k");
        for (int k = 2; k <= 10; k++) {
            due("both in one fold, k " + k, twoAlike(24, k).folds(k, 1, 1), 2);
            due("each learned from the other, k " + k, twoAlike(24, k + 1).folds(k, 1, 1), 0);
            due("each learned from the other, k " + k, twoAlike(24, k - 1).folds(k, 1, 1), 0);
            due("both in one fold, k " + k, twoAlike(24, 2 * k).folds(k, 1, 1), 2);
        }
        AskTree x = twoAlike(24, 10);
        x.drop(1);
        due("a number less after a drop", x.folds(9, 1, 1), 2);
        due("a number less after a drop", x.folds(10, 1, 1), 0);
    }

    static void p11OfAllCasesNotInTheFold() {
        says("for each one a tree is GROWN of all cases that are not in it");
        AskTree one = of(new int[] {1, 5});
        due("one case, of class 1: a tree without cases tells 0", one.folds(2, 8, 1), 1);
        due("one case, of class 1", one.folds(10, 8, 1), 1);
        AskTree zero = of(new int[] {0, 5});
        due("one case, of class 0", zero.folds(2, 8, 1), 0);
        AskTree two = of(new int[] {0, 5}, new int[] {3, 5});
        due("each told what the other is", two.folds(2, 8, 1), 2);
        due("without cases", new AskTree().folds(2, 0, 1), 0);
        due("without cases", new AskTree().folds(10, 8, 100), 0);
    }

    static void p11OfThreeHundred() {
        says("to that depth with that least count");
        AskTree x = new AskTree();
        for (int i = 0; i < 300; i++) add(x, i < 150 ? 0 : 1, i < 150 ? 1 : 2);
        due("75 on each side, the least is 75", x.folds(2, 1, 75), 0);
        due("75 on each side, the least is 76", x.folds(2, 1, 76), 150);
        due("no question", x.folds(2, 0, 75), 150);
        due("135 on each side", x.folds(10, 8, 100), 0);
    }

    static void p11AsSayDoes() {
        says("how many cases, each in its fold, it tells WRONG (as say() does), together");
        // each is left out once: for both gaps as many of the others answer YES as NO, so that class 0 is told
        AskTree x = of(new int[] {0, 1}, new int[] {0, 1}, new int[] {1, 2}, new int[] {1, 2}, new int[] {1, GAP}, new int[] {0, GAP});
        due("folds(6, 1, 1)", x.folds(6, 1, 1), 1);
        AskTree sort = sortOf(new int[] {0, 1}, new int[] {1, 2}, new int[] {0, 3}, new int[] {0, 1}, new int[] {1, 2}, new int[] {0, 3});
        // without the 1 it asks for 2, without the 2 nothing, without the 3 for 1
        due("folds(3, 1, 1)", sort.folds(3, 1, 1), 4);
        due("folds(6, 1, 1)", sort.folds(6, 1, 1), 0);
    }

    static void p11None() {
        says("NONE");
        AskTree x = steps();
        refused("folds(.., 1, 1)", NONE, 2, 10, k -> x.folds(k, 1, 1));
        refused("folds(2, .., 1)", NONE, 0, 8, d -> x.folds(2, d, 1));
        refused("folds(2, 1, ..)", NONE, 1, 100, l -> x.folds(2, 1, l));
        AskTree none = new AskTree();
        refused("folds(.., 1, 1) without cases", NONE, 2, 10, k -> none.folds(k, 1, 1));
    }

    static void p11IsNoTree() {
        says("A refused call changes nothing .. FULL (-4): .. 20 trees");
        AskTree x = steps();
        x.grow(8, 1);
        for (int t = 1; t < 20; t++) x.grow(t % 3, 1);
        int answer = steps().folds(5, 3, 1);
        due("folds with twenty trees", x.folds(5, 3, 1), answer);
        due("count(1)", x.count(1), 20);
        due("count(0)", x.count(0), 10);
        due("said()", x.said(), NONE);
        due("nodes of tree 0", x.tree(0, 0), 7);
        for (int t = 1; t < 20; t++) due("DEPTH of " + t, x.tree(t, 2), t % 3);
    }

    // ---- 12: remove

    static void p12TheLastGoes() {
        says("The tree that was made last goes: how many are left");
        AskTree x = steps();
        for (int t = 0; t < 20; t++) x.grow(t % 3, 1);
        for (int t = 19; t >= 0; t--) {
            due("remove()", x.remove(), t);
            due("count(1)", x.count(1), t);
            due("the tree that went", x.tree(t, 0), NONE);
            if (t > 0) due("DEPTH of the last one left", x.tree(t - 1, 2), (t - 1) % 3);
        }
        due("remove()", x.remove(), NONE);
        due("cases", x.count(0), 10);
    }

    static void p12ThereIsNone() {
        says("NONE: there is none");
        AskTree x = new AskTree();
        due("remove()", x.remove(), NONE);
        due("remove()", x.remove(), NONE);
        due("grow", x.grow(0, 1), 0);
        due("remove()", x.remove(), 0);
        due("remove()", x.remove(), NONE);
        due("grow", x.grow(0, 1), 0);
    }

    static void p12NothingOfItIsLeft() {
        says("The tree that was made last goes");
        AskTree x = steps();
        x.grow(8, 1);
        x.remove();
        x.grow(1, 1);
        int[] want = {3, 2, 1, 3, 10, 3};
        for (int what = 0; what < 6; what++) due("tree(0, " + what + ")", x.tree(0, what), want[what]);
        leafIs(x, 0, 1, 0, 3, 0, 1);
        leafIs(x, 0, 2, 2, 7, 3, 1);
        due("a node of the tree that went", x.node(0, 3, 5), NONE);
        due("its share", x.share(0, 6, 3), NONE);
        due("its leaf", x.rule(0, 6, 0, 0), NO_SUCH);
        due("say", say(x, 0, 16), 2);
        priceIs(x, 0, 3, 1);
        x.remove();
        x.grow(0, 1);
        int[] leaf = {1, 1, 0, 6, 10, 6};
        for (int what = 0; what < 6; what++) due("tree(0, " + what + ")", x.tree(0, what), leaf[what]);
        leafIs(x, 0, 0, 2, 10, 6, 0);
        due("near", near(x, 0, 16), 0);
        due("turned(0)", x.turned(0), NO_SUCH);
        x.cut(0, 0, 1);
        due("nodes of it cut", x.tree(1, 0), 1);
    }

    // ---- 13: tree

    static void p13OfATree() {
        says("Of a tree: 0 nodes, 1 leaves, 2 DEPTH, 3 WRONG, 4 cases that it was made of, 5 how many of the cases there are now");
        AskTree x = steps();
        x.grow(8, 1);
        x.grow(1, 1);
        x.grow(0, 1);
        int[][] want = {{7, 4, 3, 0, 10, 0}, {3, 2, 1, 3, 10, 3}, {1, 1, 0, 6, 10, 6}};
        for (int t = 0; t < 3; t++) for (int what = 0; what < 6; what++) due("tree(" + t + ", " + what + ")", x.tree(t, what), want[t][what]);
    }

    static void p13OfATreeWithoutCases() {
        says("Of a tree: 0 nodes, 1 leaves, 2 DEPTH, 3 WRONG, 4 cases that it was made of");
        AskTree x = new AskTree();
        x.grow(8, 1);
        int[] want = {1, 1, 0, 0, 0, 0};
        for (int what = 0; what < 6; what++) due("tree(0, " + what + ")", x.tree(0, what), want[what]);
    }

    static void p13OfTheCasesThereAreNow() {
        says("5 how many of the cases there are now it tells wrong (as say() does)");
        AskTree x = of(new int[] {0, 1}, new int[] {1, 2});
        x.grow(1, 1);
        due("tree(0, 5)", x.tree(0, 5), 0);
        add(x, 1, 1);
        due("one more, wrong", x.tree(0, 5), 1);
        add(x, 0, GAP);
        due("a gap, led to YES", x.tree(0, 5), 1);
        add(x, 1, GAP);
        due("a gap, led to YES, wrong", x.tree(0, 5), 2);
        while (x.count(0) > 0) x.drop(0);
        due("without cases", x.tree(0, 5), 0);
        for (int i = 0; i < 300; i++) add(x, 3, i % 5);
        due("of 300 all wrong", x.tree(0, 5), 300);
        due("said()", x.said(), NONE);
    }

    static void p13None() {
        says("NONE");
        AskTree none = steps();
        refused("tree(.., 0) without trees", NONE, 0, -1, t -> none.tree(t, 0));
        AskTree x = steps();
        x.grow(8, 1);
        x.grow(1, 1);
        for (int w = 0; w < 6; w++) {
            int what = w;
            refused("tree(.., " + w + ")", NONE, 0, 1, t -> x.tree(t, what));
        }
        refused("tree(0, ..)", NONE, 0, 5, what -> x.tree(0, what));
        refused("tree(1, ..)", NONE, 0, 5, what -> x.tree(1, what));
    }

    // ---- 14: node

    static void p14OfANode() {
        says("0 the MARK of its question (-1 of a LEAF), 1 v (0 of a leaf), 2 the node below YES, 3 below NO (-1 of a leaf)");
        AskTree x = steps();
        x.grow(8, 1);
        nodeIs(x, 0, 0, 0, 4, 1, 2, 2, 10, 6, 0, 0);
        leafIs(x, 0, 1, 0, 3, 0, 1);
        nodeIs(x, 0, 2, 0, 15, 3, 6, 2, 7, 3, 1, 1);
        nodeIs(x, 0, 3, 0, 11, 4, 5, 2, 5, 1, 2, 0);
        leafIs(x, 0, 4, 1, 1, 0, 3);
        leafIs(x, 0, 5, 2, 4, 0, 3);
        leafIs(x, 0, 6, 3, 2, 0, 2);
    }

    static void p14OfTheLeastAndGreatest() {
        says("1 v (0 of a leaf) .. 7 how many questions are above it, 8 the DEFAULT (1 YES, 0 NO or a leaf)");
        AskTree least = sortOf(new int[] {0, -1000}, new int[] {1, 1000});
        least.grow(1, 1);
        nodeIs(least, 0, 0, 0, -1000, 1, 2, 0, 2, 1, 0, 1);
        AskTree greatest = of(new int[] {0, 1, 1, 1, 1, 1, 1, 1, -1000}, new int[] {1, 1, 1, 1, 1, 1, 1, 1, 1000}, new int[] {1, 1, 1, 1, 1, 1, 1, 1, 1000});
        greatest.grow(1, 1);
        nodeIs(greatest, 0, 0, 7, 1000, 1, 2, 1, 3, 1, 0, 0);
        AskTree deep = TermsTest.chain();
        deep.grow(8, 1);
        for (int k = 0; k < 17; k++) due("questions above " + k, deep.node(0, k, 7), (k + 1) / 2);
    }

    static void p14None() {
        says("NONE (an answer may be -1, too)");
        AskTree none = steps();
        refused("node(.., 0, 5) without trees", NONE, 0, -1, t -> none.node(t, 0, 5));
        AskTree x = steps();
        x.grow(8, 1);
        refused("node(.., 0, 5)", NONE, 0, 0, t -> x.node(t, 0, 5));
        for (int w = 0; w < 9; w++) {
            int what = w;
            refused("node(0, .., " + w + ")", NONE, 0, 6, k -> x.node(0, k, what));
        }
        for (int k = 0; k < 7; k++) {
            int node = k;
            refused("node(0, " + k + ", ..)", NONE, 0, 8, what -> x.node(0, node, what));
        }
    }

    // ---- 15: share

    static void p15HowManyOfAClass() {
        says("How many cases of a class a node was made of");
        AskTree x = steps();
        x.grow(8, 1);
        sharesAre(x, 0, 0, 3, 1, 4, 2);
        sharesAre(x, 0, 1, 3, 0, 0, 0);
        sharesAre(x, 0, 2, 0, 1, 4, 2);
        sharesAre(x, 0, 3, 0, 1, 4, 0);
        sharesAre(x, 0, 6, 0, 0, 0, 2);
        AskTree none = new AskTree();
        none.grow(0, 1);
        sharesAre(none, 0, 0, 0, 0, 0, 0);
        AskTree full = new AskTree();
        addMany(full, 300, 3);
        full.grow(0, 1);
        sharesAre(full, 0, 0, 0, 0, 0, 300);
    }

    static void p15None() {
        says("NONE");
        AskTree none = steps();
        refused("share(.., 0, 0) without trees", NONE, 0, -1, t -> none.share(t, 0, 0));
        AskTree x = steps();
        x.grow(8, 1);
        refused("share(.., 0, 0)", NONE, 0, 0, t -> x.share(t, 0, 0));
        refused("share(0, .., 0)", NONE, 0, 6, k -> x.share(0, k, 0));
        for (int k = 0; k < 7; k++) {
            int node = k;
            refused("share(0, " + k + ", ..)", NONE, 0, 3, c -> x.share(0, node, c));
        }
    }

    // ---- 16: say

    static void p16TheLeafToWhichTheQuestionsLead() {
        says("that of the leaf to which the questions lead");
        AskTree x = steps();
        x.grow(8, 1);
        int[][] due = {{-1000, 0}, {3, 0}, {4, 1}, {10, 1}, {11, 2}, {14, 2}, {15, 3}, {1000, 3}};
        for (int[] d : due) due("say of " + d[0], say(x, 0, d[0]), d[1]);
        // NO at the top, YES at 15, NO at 11
        due("say of a GAP", say(x, 0, GAP), 2);
        due("say of gaps alone", say(x, 0, GAP, GAP, GAP, GAP, GAP, GAP, GAP, GAP), 2);
        AskTree deep = TermsTest.chain();
        deep.grow(8, 1);
        for (int m = 0; m < 8; m++) due("say without mark " + m, say(deep, 0, allBut(1, m, 0)), 0);
        due("say of all", say(deep, 0, allBut(1, 0, 1)), 1);
    }

    static void p16OfTheTwentieth() {
        says("The CLASS that a tree tells of marks");
        AskTree x = steps();
        for (int t = 0; t < 19; t++) x.grow(0, 1);
        x.grow(8, 1);
        due("say of tree 18", say(x, 18, 16), 2);
        due("say of tree 19", say(x, 19, 16), 3);
        due("say of tree 20", say(x, 20, 16), NONE);
    }

    static void p16None() {
        says("NONE (a mark is not as said, too)");
        AskTree none = steps();
        refused("say without trees", NONE, 0, -1, t -> none.say(t, 0, 0, 0, 0));
        AskTree x = steps();
        x.grow(8, 1);
        refused("say", NONE, 0, 0, t -> x.say(t, 0, 0, 0, 0));
        refusedMarks("say", NONE, marks -> say(x, 0, marks));
        due("said()", x.said(), NONE);
    }

    // ---- 17: said

    static void p17NoneBeforeAny() {
        says("NONE before any");
        AskTree x = steps();
        due("at first", x.said(), NONE);
        say(x, 0, 1);
        due("after a refused say()", x.said(), NONE);
        x.grow(8, 1);
        say(x, 0, 1001);
        say(x, 1, 1);
        due("after refused ones", x.said(), NONE);
        vote(x, 16);
        near(x, 0, 16);
        x.tree(0, 5);
        x.folds(2, 2, 1);
        due("after calls that tell as say() does", x.said(), NONE);
    }

    static void p17TheLatestSay() {
        says("The leaf to which the latest say() led");
        AskTree x = steps();
        x.grow(8, 1);
        x.grow(0, 1);
        int[][] leaves = {{1, 1}, {4, 4}, {11, 5}, {15, 6}, {GAP, 5}};
        for (int[] l : leaves) {
            say(x, 0, l[0]);
            due("the leaf of " + l[0], x.said(), l[1]);
            due("asked again", x.said(), l[1]);
        }
        say(x, 1, 1);
        due("of one leaf", x.said(), 0);
        say(x, 0, 16);
        say(x, 0, 1001);
        say(x, 2, 1);
        say(x, -1, 1);
        due("after refused ones", x.said(), 6);
        vote(x, 1);
        near(x, 0, 1);
        x.remove();
        x.remove();
        due("when the trees are gone", x.said(), 6);
        say(x, 0, 1);
        due("after one refused without trees", x.said(), 6);
    }

    static void p17OfTheDeepestLeaf() {
        says("The leaf to which the latest say() led");
        AskTree x = TermsTest.chain();
        x.grow(8, 1);
        for (int m = 0; m < 8; m++) {
            say(x, 0, allBut(1, m, 0));
            due("said()", x.said(), 2 * m + 1);
        }
        say(x, 0, allBut(1, 0, 1));
        due("said()", x.said(), 16);
    }

    // ---- 18: vote, 19: voices

    /** A tree for each class told: it tells that class of all marks. */
    private static AskTree oneTreeEach(int... classes) {
        AskTree x = new AskTree();
        for (int c : classes) {
            add(x, c);
            x.grow(0, 1);
            x.drop(0);
        }
        return x;
    }

    /** {the class told, its voices, the classes of the trees ..} */
    private static final int[][] VOTES = {
        {3, 1, 3}, {0, 1, 0}, {2, 1, 3, 2}, {0, 1, 3, 2, 1, 0}, {1, 1, 3, 2, 1}, {3, 2, 3, 2, 3}, {2, 2, 3, 2, 3, 2}, {0, 2, 0, 3, 0, 3},
        {1, 2, 2, 1, 0, 1}, {3, 3, 0, 0, 3, 3, 3}, {2, 20, 2, 2, 2, 2, 2, 2, 2, 2, 2, 2, 2, 2, 2, 2, 2, 2, 2, 2, 2, 2},
        {1, 10, 3, 3, 3, 3, 3, 3, 3, 3, 3, 3, 1, 1, 1, 1, 1, 1, 1, 1, 1, 1}, {3, 11, 1, 1, 1, 1, 1, 1, 1, 1, 1, 3, 3, 3, 3, 3, 3, 3, 3, 3, 3, 3}
    };

    static void p18MostTreesTell() {
        says("The CLASS that most trees tell of marks; of several the least");
        for (int[] v : VOTES) {
            AskTree x = oneTreeEach(java.util.Arrays.copyOfRange(v, 2, v.length));
            due("vote", vote(x, 1, 2, 3), v[0]);
        }
        AskTree x = steps();
        x.grow(8, 1);
        due("vote of one tree", vote(x, 15), 3);
        x.grow(0, 1);
        due("one each: the least", vote(x, 15), 2);
        x.remove();
        due("vote of those left", vote(x, 15), 3);
    }

    static void p18OfGaps() {
        says("The CLASS that most trees tell of marks");
        AskTree x = steps();
        x.grow(8, 1);
        due("vote of gaps alone", vote(x, GAP, GAP, GAP, GAP, GAP, GAP, GAP, GAP), 2);
        AskTree none = new AskTree();
        none.grow(8, 1);
        due("vote of a tree without cases", vote(none, GAP), 0);
    }

    static void p18ThereAreNoTrees() {
        says("NONE: there are no trees");
        AskTree x = steps();
        due("vote", vote(x, 1), NONE);
        x.grow(8, 1);
        x.remove();
        due("vote when they are gone", vote(x, 1), NONE);
        due("voices()", x.voices(), NONE);
    }

    static void p18AMarkIsNotAsSaid() {
        says("or a mark is not as said");
        AskTree x = steps();
        x.grow(8, 1);
        refusedMarks("vote", NONE, marks -> vote(x, marks));
        due("voices()", x.voices(), NONE);
    }

    static void p19HowManyTreesTold() {
        says("How many trees told that class at the latest vote()");
        for (int[] v : VOTES) {
            AskTree x = oneTreeEach(java.util.Arrays.copyOfRange(v, 2, v.length));
            vote(x);
            due("voices()", x.voices(), v[1]);
        }
    }

    static void p19NoneBeforeAny() {
        says("NONE before any");
        AskTree x = steps();
        due("at first", x.voices(), NONE);
        vote(x, 1);
        due("after one refused without trees", x.voices(), NONE);
        x.grow(8, 1);
        vote(x, 1001);
        due("after one refused by a mark", x.voices(), NONE);
        say(x, 0, 1);
        near(x, 0, 1);
        due("after others", x.voices(), NONE);
    }

    static void p19TheLatestVote() {
        says("at the latest vote()");
        AskTree x = steps();
        x.grow(8, 1);
        x.grow(8, 1);
        x.grow(0, 1);
        vote(x, 12);
        due("voices()", x.voices(), 3);
        vote(x, 1);
        due("voices()", x.voices(), 2);
        vote(x, -1001);
        due("after a refused one", x.voices(), 2);
        x.remove();
        x.remove();
        x.remove();
        vote(x, 1);
        due("when the trees are gone", x.voices(), 2);
        x.grow(0, 1);
        vote(x, 1);
        due("after a new one", x.voices(), 1);
    }

    // ---- 20: rule

    private static void ruleIs(AskTree x, int leaf, int mark, int first, int second) {
        due("rule(0, " + leaf + ", " + mark + ", 0)", x.rule(0, leaf, mark, 0), first);
        due("rule(0, " + leaf + ", " + mark + ", 1)", x.rule(0, leaf, mark, 1), second);
    }

    static void p20OfANumber() {
        says("of a NUMBER: the least (what 0), the greatest number (1) of -1000 .. 1000 that it may be");
        AskTree x = steps();
        x.grow(8, 1);
        ruleIs(x, 1, 0, -1000, 3);
        ruleIs(x, 4, 0, 4, 10);
        ruleIs(x, 5, 0, 11, 14);
        ruleIs(x, 6, 0, 15, 1000);
        for (int m = 1; m < 8; m++) ruleIs(x, 5, m, -1000, 1000);
    }

    static void p20OfTheLeastAndGreatestNumber() {
        says("the greatest number (1) of -1000 .. 1000 that it may be");
        AskTree least = of(new int[] {0, -1000}, new int[] {1, -999});
        least.grow(1, 1);
        ruleIs(least, 1, 0, -1000, -1000);
        ruleIs(least, 2, 0, -999, 1000);
        AskTree greatest = of(new int[] {0, 999}, new int[] {1, 1000});
        greatest.grow(1, 1);
        ruleIs(greatest, 1, 0, -1000, 999);
        ruleIs(greatest, 2, 0, 1000, 1000);
        // asked twice below YES and twice below NO: the narrowest counts
        AskTree one = of(new int[] {0, 4}, new int[] {1, 5}, new int[] {2, 6});
        addMany(one, 5, 1, 5);
        addMany(one, 9, 2, 6);
        one.grow(8, 1);
        nodeIs(one, 0, 0, 0, 6, 1, 4);
        ruleIs(one, 2, 0, -1000, 4);
        ruleIs(one, 3, 0, 5, 5);
        ruleIs(one, 4, 0, 6, 1000);
    }

    static void p20OfASortThatMustBe() {
        says("of a SORT: the number that it must be .. (1; 0 if there is one that it must be)");
        AskTree x = sortChain(0);
        x.grow(8, 1);
        due("nodes", x.tree(0, 0), 17);
        for (int v = 0; v < 8; v++) ruleIs(x, 2 * v + 1, 0, v, 0);
        AskTree other = new AskTree();
        other.sort(7, 1);
        for (int v = 0; v < 8; v++) add(other, 0, allBut(5, 7, v));
        for (int i = 0; i < 20; i++) add(other, 1, allBut(5, 7, 100 + i));
        other.grow(8, 1);
        for (int v = 0; v < 8; v++) ruleIs(other, 2 * v + 1, 7, v, 0);
        ruleIs(other, 16, 7, -2000, 8);
        ruleIs(other, 16, 0, -1000, 1000);
        AskTree edge = sortOf(new int[] {0, -1000}, new int[] {0, -1000}, new int[] {1, 1000}, new int[] {1, 1000}, new int[] {2, 7});
        edge.grow(8, 1);
        ruleIs(edge, 1, 0, -1000, 0);
        nodeIs(edge, 0, 2, 0, 7);
        ruleIs(edge, 3, 0, 7, 0);
        ruleIs(edge, 4, 0, -2000, 2);
    }

    static void p20OfASortThatMustNotBe() {
        says("-2000 if none (0), how many numbers it must not be (1");
        AskTree x = sortChain(0);
        for (int d = 0; d <= 8; d++) {
            x.grow(d, 1);
            due("must be, below " + d, x.rule(d, 2 * d, 0, 0), -2000);
            due("must not be, below " + d, x.rule(d, 2 * d, 0, 1), d);
        }
    }

    static void p20GapsLeftAside() {
        says("All as the questions above ask, GAPS left aside");
        AskTree x = of(new int[] {0, 1}, new int[] {0, 1}, new int[] {1, 2}, new int[] {0, GAP});
        x.grow(1, 1);
        ruleIs(x, 1, 0, -1000, 1);
        ruleIs(x, 2, 0, 2, 1000);
        AskTree sort = sortOf(new int[] {0, 1}, new int[] {0, 1}, new int[] {1, 2}, new int[] {0, GAP});
        sort.grow(1, 1);
        ruleIs(sort, 1, 0, 1, 0);
        ruleIs(sort, 2, 0, -2000, 1);
    }

    static void p20OfOneLeaf() {
        says("What a leaf asks of a MARK");
        AskTree x = new AskTree();
        x.sort(5, 1);
        x.grow(8, 1);
        for (int m = 0; m < 8; m++) ruleIs(x, 0, m, m == 5 ? -2000 : -1000, m == 5 ? 0 : 1000);
    }

    static void p20NoSuchTree() {
        says("-40000: no such tree");
        AskTree none = steps();
        refused("rule(.., 0, 0, 0) without trees", NO_SUCH, 0, -1, t -> none.rule(t, 0, 0, 0));
        AskTree x = steps();
        x.grow(8, 1);
        refused("rule(.., 1, 0, 0)", NO_SUCH, 0, 0, t -> x.rule(t, 1, 0, 0));
    }

    static void p20NoSuchLeaf() {
        says("-40000: no such .. leaf");
        AskTree x = steps();
        x.grow(8, 1);
        refused("rule(0, .., 0, 0)", NO_SUCH, 0, 6, k -> x.rule(0, k, 0, 0));
        for (int question : new int[] {0, 2, 3}) {
            for (int m = 0; m < 8; m++) {
                due("rule(0, " + question + ", " + m + ", 0)", x.rule(0, question, m, 0), NO_SUCH);
                due("rule(0, " + question + ", " + m + ", 1)", x.rule(0, question, m, 1), NO_SUCH);
            }
        }
    }

    static void p20NoSuchMarkOrWhat() {
        says("-40000: no such .. mark, what");
        AskTree x = steps();
        x.grow(8, 1);
        for (int leaf : new int[] {1, 4, 5, 6}) {
            refused("rule(0, " + leaf + ", .., 0)", NO_SUCH, 0, 7, m -> x.rule(0, leaf, m, 0));
            refused("rule(0, " + leaf + ", .., 1)", NO_SUCH, 0, 7, m -> x.rule(0, leaf, m, 1));
            refused("rule(0, " + leaf + ", 0, ..)", NO_SUCH, 0, 1, what -> x.rule(0, leaf, 0, what));
        }
    }

    // ---- 21: near, 22: turned

    private static void turnedAre(AskTree x, int... want) {
        for (int m = 0; m < want.length; m++) due("turned(" + m + ")", x.turned(m), want[m]);
    }

    static void p21ThereIsNone() {
        says("0: there is none");
        AskTree x = steps();
        x.grow(0, 1);
        due("near with one leaf", near(x, 0, 5), 0);
        AskTree same = of(new int[] {0, 1}, new int[] {0, 1}, new int[] {0, 2}, new int[] {0, 2}, new int[] {1, 2});
        same.grow(1, 1);
        due("nodes", same.tree(0, 0), 3);
        due("near with two leaves of one class", near(same, 0, 1), 0);
        AskTree none = new AskTree();
        none.grow(8, 1);
        due("near of a tree without cases", near(none, 0), 0);
        due("turned(0)", none.turned(0), NO_SUCH);
    }

    static void p21None() {
        says("NONE: no such tree, a mark is not as said");
        AskTree none = steps();
        refused("near without trees", NONE, 0, -1, t -> none.near(t, 0, 0, 0, 0));
        AskTree x = steps();
        x.grow(8, 1);
        refused("near", NONE, 0, 0, t -> x.near(t, 0, 0, 0, 0));
        refusedMarks("near", NONE, marks -> near(x, 0, marks));
        due("turned(0)", x.turned(0), NO_SUCH);
    }

    static void p21IsAGap() {
        says("or is a GAP");
        AskTree x = steps();
        x.grow(8, 1);
        x.grow(0, 1);
        for (int m = 0; m < 8; m++) {
            due("near with a GAP in mark " + m, near(x, 0, allBut(3, m, GAP)), NONE);
            due("near with gaps but in mark " + m, near(x, 0, allBut(GAP, m, 3)), NONE);
            due("near with a GAP, and no other class", near(x, 1, allBut(3, m, GAP)), NONE);
        }
        due("turned(0)", x.turned(0), NO_SUCH);
    }

    static void p21OfAnotherClass() {
        says("over all leaves of another CLASS than say() tells");
        // leaves of the classes 0, 1, 0: from the first the next but one is no change
        AskTree x = of(new int[] {0, 1}, new int[] {0, 1}, new int[] {1, 8}, new int[] {1, 8}, new int[] {0, 9}, new int[] {0, 9});
        x.grow(8, 1);
        due("near", near(x, 0, 7), 1);
        turnedAre(x, 8);
        due("near", near(x, 0, 1000), 1);
        turnedAre(x, 8);
        due("near", near(x, 0, 8), 1);
        turnedAre(x, 7);
    }

    static void p21TheMostMarks() {
        says("how many MARKS");
        AskTree x = new AskTree();
        for (int m = 0; m < 8; m++) add(x, 0, allBut(1000, m, -1000));
        add(x, 1, allBut(1000, 0, 1000));
        x.grow(8, 1);
        due("near, all eight", near(x, 0, allBut(-1000, 0, -1000)), 8);
        turnedAre(x, 1000, 1000, 1000, 1000, 1000, 1000, 1000, 1000);
        due("near, all but one", near(x, 0, allBut(-1000, 4, 1000)), 7);
        for (int m = 0; m < 8; m++) {
            due("near, one", near(x, 0, allBut(1000, m, 999)), 1);
            turnedAre(x, 1000, 1000, 1000, 1000, 1000, 1000, 1000, 1000);
        }
        due("near from all that it asks", near(x, 0, allBut(1000, 0, 1000)), 1);
        turnedAre(x, 999, 1000, 1000, 1000, 1000, 1000, 1000, 1000);
    }

    static void p21TheFewestMarks() {
        says("the fewest MARKS that don't follow them");
        // one mark moved by 1000 is less than two moved by 1
        AskTree x = of(
            new int[] {2, 1000, 0}, new int[] {2, 1000, 0}, new int[] {2, 1000, 1}, new int[] {2, 1000, 1}, new int[] {1, 1, 1},
            new int[] {1, 1, 1}, new int[] {1, 1, 1}, new int[] {0, 0, 0}, new int[] {0, 0, 0}, new int[] {0, 0, 0}, new int[] {0, 1, 0},
            new int[] {0, 0, 1}, new int[] {0, 0, 0});
        x.grow(3, 1);
        due("WRONG", x.tree(0, 3), 0);
        due("near", near(x, 0, 0, 0), 1);
        turnedAre(x, 1000, 0);
    }

    /** Leaf 5 asks mark 0 for 10 and mark 2 for 5, leaf 6 asks mark 0 for 10 and mark 1 for 1; both are of class 1. */
    private static AskTree twoWays() {
        AskTree x = new AskTree();
        addMany(x, 5, 0, 0, 0, 0);
        addMany(x, 1, 0, 10, 0, 0);
        addMany(x, 2, 1, 10, 0, 5);
        addMany(x, 2, 1, 10, 1, 0);
        x.grow(8, 1);
        nodeIs(x, 0, 0, 0, 10, 1, 2);
        nodeIs(x, 0, 2, 1, 1, 3, 6);
        nodeIs(x, 0, 3, 2, 5, 4, 5);
        return x;
    }

    static void p21MovedLeastTogether() {
        says("of several the one for which all NUMBERS among these together are moved least");
        AskTree x = twoWays();
        due("10 + 5 against 10 + 1", near(x, 0, 0, 0, 0), 2);
        turnedAre(x, 10, 1, 0);
        due("15 against 14", near(x, 0, 0, -3, 0), 2);
        turnedAre(x, 10, 1, 0);
        due("15 against 16", near(x, 0, 0, -5, 0), 2);
        turnedAre(x, 10, -5, 5);
        due("2010 against 2005", near(x, 0, -1000, -994, -995), 2);
        turnedAre(x, 10, 1, -995);
    }

    static void p21TheFirstLeaf() {
        says("of several the first leaf");
        AskTree x = twoWays();
        due("15 against 15", near(x, 0, 0, -4, 0), 2);
        turnedAre(x, 10, -4, 5);
        AskTree y = of(new int[] {0, 0}, new int[] {0, 1}, new int[] {1, 4}, new int[] {1, 5}, new int[] {2, 11}, new int[] {2, 12});
        y.grow(8, 1);
        due("4 against 4", near(y, 0, 7), 1);
        turnedAre(y, 3);
        due("5 against 3", near(y, 0, 8), 1);
        turnedAre(y, 11);
    }

    static void p21SortsAreNotMoved() {
        says("all NUMBERS among these");
        AskTree x = new AskTree();
        x.sort(1, 1);
        into(x, new int[] {1, 0, 0}, new int[] {1, 0, 0}, new int[] {1, 0, 0}, new int[] {1, 0, 0}, new int[] {2, 9, 900}, new int[] {2, 9, 900},
            new int[] {0, 9, 0}, new int[] {0, 9, 0});
        x.grow(2, 1);
        nodeIs(x, 0, 0, 0, 9, 1, 2);
        nodeIs(x, 0, 2, 1, 0, 3, 4);
        due("the sort, though 0 and 900 are far apart", near(x, 0, 9, 0), 1);
        turnedAre(x, 9, 1);
    }

    static void p21ThatFollowIsNotMoved() {
        says("(each to the nearest number that it may be)");
        AskTree x = steps();
        x.grow(8, 1);
        int[][] turns = {{-1000, 4}, {3, 4}, {4, 3}, {6, 3}, {7, 3}, {8, 11}, {10, 11}, {11, 10}, {12, 10}, {13, 15}, {14, 15}, {15, 14}, {1000, 14}};
        for (int[] t : turns) {
            due("near of " + t[0], near(x, 0, t[0], 7, -7), 1);
            turnedAre(x, t[1], 7, -7, 0, 0, 0, 0, 0);
        }
    }

    static void p22BeforeAny() {
        says("-40000: no such mark, or there was none");
        AskTree x = steps();
        for (int m = 0; m < 8; m++) due("turned(" + m + ")", x.turned(m), NO_SUCH);
        x.grow(0, 1);
        near(x, 0, 1);
        for (int m = 0; m < 8; m++) due("turned(" + m + ") after a near() of 0", x.turned(m), NO_SUCH);
        near(x, 0, GAP);
        near(x, 1, 1);
        near(x, 0, 1001);
        for (int m = 0; m < 8; m++) due("turned(" + m + ") after refused ones", x.turned(m), NO_SUCH);
    }

    static void p22NoSuchMark() {
        says("-40000: no such mark");
        AskTree x = steps();
        refused("turned before any", NO_SUCH, 0, 7, x::turned);
        x.grow(8, 1);
        near(x, 0, 12, 1, 2, 3, 4, 5, 6, 7);
        refused("turned", NO_SUCH, 0, 7, x::turned);
        turnedAre(x, 10, 1, 2, 3, 4, 5, 6, 7);
    }

    static void p22TheLatestAbove0() {
        says("by the latest near() above 0");
        AskTree x = steps();
        x.grow(8, 1);
        x.grow(0, 1);
        near(x, 0, 12, 1, -1000, 1000, 4, 5, 6, -7);
        int[] want = {10, 1, -1000, 1000, 4, 5, 6, -7};
        turnedAre(x, want);
        due("a later one of 0", near(x, 1, 3, 3, 3), 0);
        turnedAre(x, want);
        due("a later one, refused by a GAP", near(x, 0, 3, GAP), NONE);
        due("a later one, refused by a mark", near(x, 0, 3, 1001), NONE);
        due("a later one, refused by the tree", near(x, 2, 3), NONE);
        say(x, 0, 3, 3);
        vote(x, 3, 3);
        x.rule(0, 1, 0, 0);
        turnedAre(x, want);
        x.remove();
        x.remove();
        turnedAre(x, want);
        x.grow(8, 1);
        turnedAre(x, want);
        due("a later one above 0", near(x, 0, 3, 3), 1);
        turnedAre(x, 4, 3, 0, 0, 0, 0, 0, 0);
    }

    static void p22OfASortTheNumberThatItMustBe() {
        says("of a SORT the number that it must be");
        AskTree x = sortChain(0);
        x.grow(8, 1);
        for (int told : new int[] {-1000, -1, 8, 50, 1000}) {
            due("near of " + told, near(x, 0, told), 1);
            turnedAre(x, 0);
        }
        AskTree negative = sortChain(-1000);
        negative.grow(8, 1);
        due("near", near(negative, 0, 3), 1);
        turnedAre(negative, -1000);
    }

    static void p22OfASortTheLeastFrom0On() {
        says("or the least from 0 on that it may be");
        AskTree x = sortChain(0);
        for (int d = 1; d <= 8; d++) {
            // only the last leaf is of class 1: it must not be 0 .. d - 1
            x.grow(d, 1);
            due("near", near(x, d - 1, d - 1), 1);
            turnedAre(x, d);
            due("near", near(x, d - 1, 0), 1);
            turnedAre(x, d);
        }
        AskTree below = sortChain(-8);
        below.grow(8, 1);
        due("near", near(below, 0, -1), 1);
        turnedAre(below, 0);
        AskTree around = sortChain(-3);
        around.grow(8, 1);
        due("near", near(around, 0, -3), 1);
        turnedAre(around, 5);
        AskTree above = sortChain(1);
        above.grow(8, 1);
        due("near", near(above, 0, 8), 1);
        turnedAre(above, 0);
    }

    static void p22AsItWasIfItFollows() {
        says("as it was, if it follows the rules");
        AskTree x = new AskTree();
        x.sort(0, 1);
        into(x, new int[] {0, 5, 1}, new int[] {0, 5, 1}, new int[] {0, 5, 1}, new int[] {1, 6, 1}, new int[] {1, 7, 1}, new int[] {2, 8, 9}, new int[] {2, 9, 9});
        x.grow(8, 1);
        due("WRONG", x.tree(0, 3), 0);
        // to class 2 by mark 1 alone, or to class 0 by mark 0 alone, which is not moved
        due("near", near(x, 0, -77, 3), 1);
        turnedAre(x, 5, 3, 0, 0, 0, 0, 0, 0);
        due("near", near(x, 0, 5, -1000), 1);
        turnedAre(x, 0, -1000, 0, 0, 0, 0, 0, 0);
    }

    // ---- 23: count

    static void p23HowMany() {
        says("How many: 0 cases, 1 trees");
        AskTree x = new AskTree();
        for (int i = 1; i <= 300; i++) {
            add(x, 0);
            if (i == 1 || i >= 299) due("count(0)", x.count(0), i);
        }
        add(x, 0);
        due("count(0) when full", x.count(0), 300);
        for (int t = 1; t <= 20; t++) {
            x.grow(0, 1);
            due("count(1)", x.count(1), t);
        }
        x.grow(0, 1);
        due("count(1) when full", x.count(1), 20);
        due("count(0)", x.count(0), 300);
        x.drop(0);
        x.remove();
        due("count(0)", x.count(0), 299);
        due("count(1)", x.count(1), 19);
    }

    static void p23AnotherWhat() {
        says("NONE: another what");
        AskTree none = new AskTree();
        refused("count", NONE, 0, 1, none::count);
        AskTree x = steps();
        x.grow(8, 1);
        refused("count", NONE, 0, 1, x::count);
    }
}
