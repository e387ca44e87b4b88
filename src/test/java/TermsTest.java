/** The sentences of "What it is" and "Terms" that name a boundary, each with a test of its own. */
public final class TermsTest extends Sentences {
    public static void main(String[] args) throws IllegalAccessException {
        run(TermsTest.class);
    }

    // ---- What it is

    static void the512thCall() {
        says("An object is used for at most 512 calls after it has been made");
        AskTree x = new AskTree();
        for (int i = 0; i < 300; i++) add(x, i < 150 ? 0 : 1, i);
        x.grow(8, 1);
        for (int call = 302; call <= 511; call++) say(x, 0, 149);
        due("the 512th call", say(x, 0, 150), 1);
    }

    // ---- 1: cases, classes, marks, gaps, questions

    static void casesAtMost300() {
        says("CASES, at most 300, numbered from 0 on as they were told");
        AskTree x = new AskTree();
        for (int i = 0; i < 300; i++) due("add", add(x, i % 4, i, -i), i);
        due("the 301st", add(x, 0), FULL);
        for (int i : new int[] {0, 1, 298, 299}) {
            due("cls(" + i + ")", x.cls(i), i % 4);
            due("mark(" + i + ", 0)", x.mark(i, 0), i);
            due("mark(" + i + ", 1)", x.mark(i, 1), -i);
        }
        due("count(0)", x.count(0), 300);
    }

    static void classesFrom0To3() {
        says("a CLASS 0 .. 3");
        AskTree x = new AskTree();
        for (int c = 0; c < 4; c++) {
            due("add", x.add(c, 0, 0, 0, 0), c);
            due("cls", x.cls(c), c);
        }
        refused("add with the class", NONE, 0, 3, c -> x.add(c, 0, 0, 0, 0));
        due("count(0)", x.count(0), 4);
    }

    static void marksFrom0To7() {
        says("eight MARKS 0 .. 7");
        AskTree x = of(new int[] {0, 10, 11, 12, 13, 14, 15, 16, 17});
        for (int m = 0; m < 8; m++) due("mark(0, " + m + ")", x.mark(0, m), 10 + m);
        refused("mark(0, ..)", NO_SUCH, 0, 7, m -> x.mark(0, m));
        refused("turned", NO_SUCH, 0, 7, m -> x.turned(m));
        AskTree y = new AskTree();
        refused("sort", NONE, 0, 7, m -> y.sort(m, 1));
        for (int m = 0; m < 8; m++) due("sort(" + m + ", 0)", y.sort(m, 0), 0);
    }

    static void eachMarkIsAskedFor() {
        says("eight MARKS 0 .. 7");
        for (int m = 0; m < 8; m++) {
            AskTree x = new AskTree();
            add(x, 0, allBut(5, m, 1));
            add(x, 1, allBut(5, m, 3));
            x.grow(8, 1);
            nodeIs(x, 0, 0, m, 3);
            x.best(2);
            nodeIs(x, 1, 0, m, 3);
            due("say", say(x, 0, allBut(5, m, 2)), 0);
            due("say", say(x, 0, allBut(1, m, 3)), 1);
        }
    }

    static void leastAndGreatestMark() {
        says("each a whole number -1000 .. 1000");
        int[] good = {-1000, -999, -1, 0, 1, 999, 1000};
        for (int m = 0; m < 8; m++) {
            AskTree x = new AskTree();
            for (int i = 0; i < good.length; i++) {
                due("add", add(x, 0, allBut(7, m, good[i])), i);
                for (int other = 0; other < 8; other++) {
                    due("mark " + other, x.mark(i, other), other == m ? good[i] : 7);
                }
            }
            for (int bad : BAD_MARKS) due("mark " + m + " of " + bad, add(x, 0, allBut(7, m, bad)), NONE);
            due("count(0)", x.count(0), good.length);
        }
    }

    static void gapInEachMark() {
        says("or a GAP");
        for (int m = 0; m < 8; m++) {
            AskTree x = new AskTree();
            due("add", add(x, 0, allBut(7, m, GAP)), 0);
            due("add", add(x, 0, allBut(GAP, m, 7)), 1);
            for (int other = 0; other < 8; other++) {
                due("mark(0, " + other + ")", x.mark(0, other), other == m ? GAP : 7);
                due("mark(1, " + other + ")", x.mark(1, other), other == m ? 7 : GAP);
            }
        }
    }

    /** {the number, the first mark, the next mark} */
    private static final int[][] PAIRS = {
        {0, 0, 0}, {1, 0, 1}, {65536, 1, 0}, {65535, 0, -1}, {-65536, -1, 0}, {-1, -1, -1}, {131071, 1, -1}, {-65535, -1, 1},
        {LOW, GAP, 0}, {LOW + 1, GAP, 1}, {LOW + 65535, GAP, -1}, {32768, 0, GAP}, {LOW + 32768, GAP, GAP}, {-32768, -1, GAP},
        {65536000, 1000, 0}, {1000, 0, 1000}, {65537000, 1000, 1000}, {-65536000, -1000, 0}, {65536 - 1000, 0, -1000},
        {-65536000 + 65536 - 1000, -1000, -1000}, {-65536000 + 1000, -1000, 1000}, {65536000 + 65536 - 1000, 1000, -1000}
    };

    static void twoMarksInOneNumber() {
        says("the first one in the upper 16 bits, the next one in the lower 16, each with its sign");
        for (int at = 0; at < 4; at++) {
            AskTree x = new AskTree();
            for (int i = 0; i < PAIRS.length; i++) {
                int[] four = {0, 0, 0, 0};
                four[at] = PAIRS[i][0];
                due("add of " + PAIRS[i][0], x.add(0, four[0], four[1], four[2], four[3]), i);
                due("the first mark of " + PAIRS[i][0], x.mark(i, 2 * at), PAIRS[i][1]);
                due("the next mark of " + PAIRS[i][0], x.mark(i, 2 * at + 1), PAIRS[i][2]);
            }
        }
    }

    static void twoMarksNotAsSaid() {
        says("the first one in the upper 16 bits, the next one in the lower 16, each with its sign");
        int[] bad = {
            1001, 65536 - 1001, 65536 * 1001, -65536 * 1001, 32767, 32769, HIGH, HIGH - 65535, LOW + 65536, LOW + 32767,
            LOW + 32769, 65536000 + 1001, 65536 * 1001 + 1000, 65536 * 1001 + 32768, -65536000 + 1001, -32767, -1002
        };
        for (int at = 0; at < 4; at++) {
            AskTree x = new AskTree();
            x.grow(0, 1);
            for (int b : bad) {
                int[] four = {0, 0, 0, 0};
                four[at] = b;
                due("add of " + b, x.add(0, four[0], four[1], four[2], four[3]), NONE);
                due("say of " + b, x.say(0, four[0], four[1], four[2], four[3]), NONE);
                due("vote of " + b, x.vote(four[0], four[1], four[2], four[3]), NONE);
                due("near of " + b, x.near(0, four[0], four[1], four[2], four[3]), NONE);
            }
            due("count(0)", x.count(0), 0);
        }
    }

    static void numberIsYesIfLess() {
        says("of a NUMBER: YES if it is less than v");
        AskTree x = of(new int[] {0, -4}, new int[] {1, 3});
        x.grow(1, 1);
        nodeIs(x, 0, 0, 0, 3, 1, 2);
        int[][] leaves = {{-1000, 1}, {-4, 1}, {-3, 1}, {2, 1}, {3, 2}, {4, 2}, {1000, 2}};
        for (int[] l : leaves) {
            say(x, 0, l[0]);
            due("the leaf of " + l[0], x.said(), l[1]);
        }
    }

    static void numberWithTheGreatestV() {
        says("of a NUMBER: YES if it is less than v");
        AskTree x = of(new int[] {0, 999}, new int[] {1, 1000});
        x.grow(1, 1);
        nodeIs(x, 0, 0, 0, 1000, 1, 2);
        due("say of 999", say(x, 0, 999), 0);
        due("say of 1000", say(x, 0, 1000), 1);
    }

    static void numberWithTheLeastV() {
        says("of a NUMBER: YES if it is less than v");
        AskTree x = of(new int[] {0, -1000}, new int[] {1, -999});
        x.grow(1, 1);
        nodeIs(x, 0, 0, 0, -999, 1, 2);
        due("say of -1000", say(x, 0, -1000), 0);
        due("say of -999", say(x, 0, -999), 1);
    }

    static void sortIsYesIfItIsV() {
        says("of a SORT: YES if it is v; else NO");
        for (int v : new int[] {-1000, -1, 0, 1, 1000}) {
            int other = v == 1000 ? -5 : 1000;
            AskTree x = sortOf(new int[] {0, v}, new int[] {0, v}, new int[] {1, other}, new int[] {2, other - 1});
            x.grow(1, 1);
            nodeIs(x, 0, 0, 0, v, 1, 2);
            for (int near : new int[] {v - 1, v, v + 1}) {
                if (near < -1000 || near > 1000) continue;
                say(x, 0, near);
                due("the leaf of " + near, x.said(), near == v ? 1 : 2);
            }
        }
    }

    // ---- 2: trees, nodes, defaults, classes

    static void treesFrom0To19() {
        says("TREES have the numbers 0 .. 19, as they were made");
        AskTree x = of(new int[] {0, 1}, new int[] {1, 2});
        for (int t = 0; t < 20; t++) {
            int made = t % 3 == 0 ? x.grow(t % 2, 1) : t % 3 == 1 ? x.best(t % 2) : x.cut(t - 1, 0, 1);
            due("the new tree", made, t);
        }
        for (int t = 0; t < 20; t++) {
            int leaves = t % 3 == 2 ? x.tree(t - 1, 1) : 1 + t % 2;
            due("leaves of " + t, x.tree(t, 1), leaves);
        }
        due("a 21st by grow", x.grow(1, 1), FULL);
        due("a 21st by best", x.best(1), FULL);
        due("a 21st by cut", x.cut(0, 0, 1), FULL);
        refused("tree", NONE, 0, 19, t -> x.tree(t, 0));
    }

    static void nodesInTheirOrder() {
        says("the topmost first, then all below it on the YES side, then on the NO side, likewise");
        AskTree x = of(new int[] {0, 0, 0}, new int[] {1, 0, 1}, new int[] {2, 1, 0}, new int[] {3, 1, 1});
        x.grow(2, 1);
        nodeIs(x, 0, 0, 0, 1, 1, 4, 0, 4, 3, 0, 1);
        nodeIs(x, 0, 1, 1, 1, 2, 3, 0, 2, 1, 1, 1);
        leafIs(x, 0, 2, 0, 1, 0, 2);
        leafIs(x, 0, 3, 1, 1, 0, 2);
        nodeIs(x, 0, 4, 1, 1, 5, 6, 2, 2, 1, 1, 1);
        leafIs(x, 0, 5, 2, 1, 0, 2);
        leafIs(x, 0, 6, 3, 1, 0, 2);
    }

    /** Counts the nodes from one on, and holds the numbers below it against that count. */
    private static int countFrom(AskTree x, int tree, int node, int above) {
        due("questions above " + node, x.node(tree, node, 7), above);
        if (x.node(tree, node, 0) < 0) return 1;
        due("below YES of " + node, x.node(tree, node, 2), node + 1);
        int yes = countFrom(x, tree, node + 1, above + 1);
        due("below NO of " + node, x.node(tree, node, 3), node + 1 + yes);
        return 1 + yes + countFrom(x, tree, node + 1 + yes, above + 1);
    }

    static void nodesOfADeepTree() {
        says("NODES of a tree are numbered from 0 on");
        AskTree x = new AskTree();
        for (int i = 0; i < 48; i++) add(x, i * i % 5 % 4, i * 7 % 11, i * 5 % 13, i % 3);
        x.grow(8, 1);
        int nodes = countFrom(x, 0, 0, 0);
        due("nodes", x.tree(0, 0), nodes);
        refused("node", NONE, 0, nodes - 1, k -> x.node(0, k, 5));
    }

    static void topmostHasAllCases() {
        says("CASES of a node: all, of the topmost one; of those below those that the question leads there");
        AskTree x = of(new int[] {0, 1}, new int[] {0, 1}, new int[] {1, 2}, new int[] {0, GAP}, new int[] {0, GAP});
        x.grow(8, 1);
        sharesAre(x, 0, 0, 4, 1, 0, 0);
        sharesAre(x, 0, 1, 4, 0, 0, 0);
        sharesAre(x, 0, 2, 0, 1, 0, 0);
    }

    static void defaultWhereAsManyAnswerYesAsNo() {
        says("GAPS at a question are led to YES if .. at least as many answer YES as NO");
        AskTree x = of(new int[] {0, 1}, new int[] {1, 2}, new int[] {0, GAP});
        x.grow(1, 1);
        nodeIs(x, 0, 0, 0, 2, 1, 2, 0, 3, 1, 0, 1);
        sharesAre(x, 0, 1, 2, 0, 0, 0);
        due("say of a GAP", say(x, 0, GAP), 0);
    }

    static void defaultWhereOneMoreAnswersNo() {
        says("GAPS at a question are led to YES if .. at least as many answer YES as NO, else to NO");
        AskTree x = of(new int[] {0, 1}, new int[] {1, 2}, new int[] {1, 2}, new int[] {1, GAP});
        x.grow(1, 1);
        nodeIs(x, 0, 0, 0, 2, 1, 2, 1, 4, 1, 0, 0);
        sharesAre(x, 0, 2, 0, 3, 0, 0);
        due("say of a GAP", say(x, 0, GAP), 1);
    }

    static void defaultWhereOneMoreAnswersYes() {
        says("GAPS at a question are led to YES if .. at least as many answer YES as NO");
        AskTree x = of(new int[] {0, 1}, new int[] {0, 1}, new int[] {1, 2}, new int[] {0, GAP});
        x.grow(1, 1);
        nodeIs(x, 0, 0, 0, 2, 1, 2, 0, 4, 1, 0, 1);
    }

    static void defaultOfASort() {
        says("GAPS at a question are led to YES if .. at least as many answer YES as NO, else to NO");
        AskTree even = sortOf(new int[] {0, 9}, new int[] {1, 2}, new int[] {1, GAP});
        even.grow(1, 1);
        nodeIs(even, 0, 0, 0, 2, 1, 2, 1, 3, 1, 0, 1);
        AskTree more = sortOf(new int[] {0, 2}, new int[] {1, 8}, new int[] {1, 9}, new int[] {1, GAP});
        more.grow(1, 1);
        nodeIs(more, 0, 0, 0, 2, 1, 2, 1, 4, 1, 0, 0);
    }

    static void gapsThemselvesDoNotCount() {
        says("of the node's cases without a GAP there");
        AskTree x = of(new int[] {0, 1}, new int[] {1, 2}, new int[] {1, 2});
        addMany(x, 9, 1, GAP);
        x.grow(1, 1);
        nodeIs(x, 0, 0, 0, 2, 1, 2, 1, 12, 1, 0, 0);
        AskTree other = of(new int[] {0, 1, GAP}, new int[] {0, 1, GAP}, new int[] {1, 2, 5}, new int[] {0, GAP, GAP});
        other.grow(1, 1);
        nodeIs(other, 0, 0, 0, 2, 1, 2, 0, 4, 1, 0, 1);
    }

    static void defaultIsOfTheNodesOwnCases() {
        says("of the node's cases without a GAP there");
        // of all cases more answer "less than 20" than not, of those of node 2 fewer do
        AskTree x = of(new int[] {0, 10, 1}, new int[] {1, 20, 1}, new int[] {1, 20, 1}, new int[] {1, GAP, 1});
        addMany(x, 6, 2, 15, 0);
        x.grow(2, 1);
        nodeIs(x, 0, 0, 1, 1, 1, 2);
        nodeIs(x, 0, 2, 0, 20, 3, 4, 1, 4, 1, 1, 0);
    }

    static void defaultStays() {
        says("(told of the cases that it was made of; it stays)");
        AskTree x = of(new int[] {0, 1}, new int[] {1, 2});
        x.grow(1, 1);
        addMany(x, 5, 1, 2);
        x.drop(0);
        due("the DEFAULT", x.node(0, 0, 8), 1);
        due("say of a GAP", say(x, 0, GAP), 0);
        x.cut(0, 0, 1);
        due("the DEFAULT of the cut tree", x.node(1, 0, 8), 1);
        x.grow(1, 1);
        due("the DEFAULT of a new tree", x.tree(2, 0), 1);
        add(x, 0, 1);
        x.grow(1, 1);
        due("the DEFAULT of a new tree", x.node(3, 0, 8), 0);
    }

    static void classOfSeveralTheLeast() {
        says("The CLASS of a node: the one that most of its cases have, of several the least");
        int[][] cases = {{3, 3}, {2, 2, 3}, {0, 3, 2, 1, 0}, {1, 3, 2, 1}, {2, 3, 2, 3, 2, 1}, {3, 3, 3, 2, 0}, {1, 3, 3, 1, 1}};
        for (int[] c : cases) {
            AskTree x = new AskTree();
            for (int i = 1; i < c.length; i++) add(x, c[i]);
            x.grow(0, 1);
            due("CLASS", x.node(0, 0, 4), c[0]);
            due("say", say(x, 0), c[0]);
        }
    }

    static void nodeWithoutCases() {
        says("(0 without cases)");
        AskTree x = new AskTree();
        x.grow(8, 1);
        x.best(2);
        x.cut(0, 5, 5);
        for (int t = 0; t < 3; t++) {
            leafIs(x, t, 0, 0, 0, 0, 0);
            sharesAre(x, t, 0, 0, 0, 0, 0);
            due("say", say(x, t, 1, 2, 3), 0);
        }
    }

    static void wrongOfANode() {
        says("WRONG of a node: how many of its cases have another one");
        AskTree x = of(new int[] {2}, new int[] {3}, new int[] {3}, new int[] {1});
        x.grow(0, 1);
        leafIs(x, 0, 0, 3, 4, 2, 0);
        AskTree one = of(new int[] {2});
        one.grow(0, 1);
        leafIs(one, 0, 0, 2, 1, 0, 0);
        AskTree full = new AskTree();
        for (int i = 0; i < 300; i++) add(full, i % 4);
        full.grow(0, 1);
        leafIs(full, 0, 0, 0, 300, 225, 0);
    }

    static void allThisStays() {
        says("All this is told of the cases that a tree was made of, and stays");
        AskTree x = of(new int[] {0, 1}, new int[] {1, 2}, new int[] {1, 2}, new int[] {3, 2});
        x.grow(1, 1);
        for (int i = 0; i < 4; i++) x.drop(0);
        for (int round = 0; round < 2; round++) {
            nodeIs(x, 0, 0, 0, 2, 1, 2, 1, 4, 2, 0, 0);
            leafIs(x, 0, 1, 0, 1, 0, 1);
            leafIs(x, 0, 2, 1, 3, 1, 1);
            sharesAre(x, 0, 2, 0, 2, 0, 1);
            due("WRONG", x.tree(0, 3), 1);
            due("cases", x.tree(0, 4), 4);
            due("wrong of those there are now", x.tree(0, 5), round * 3);
            addMany(x, 3, 2, 1);
        }
    }

    static void wrongOfATree() {
        says("WRONG of a tree: of its leaves together");
        AskTree x = of(new int[] {0, 1}, new int[] {0, 1}, new int[] {1, 1}, new int[] {2, 2}, new int[] {2, 2}, new int[] {3, 2});
        x.grow(1, 1);
        due("WRONG of the topmost node", x.node(0, 0, 6), 4);
        due("WRONG of the tree", x.tree(0, 3), 2);
    }

    static void depthOfATree() {
        says("DEPTH: the most questions from the top to a leaf");
        AskTree x = chain();
        for (int d = 0; d <= 8; d++) {
            due("grow(" + d + ", 1)", x.grow(d, 1), d);
            due("DEPTH", x.tree(d, 2), d);
            due("nodes", x.tree(d, 0), 2 * d + 1);
        }
    }

    /** Class 1 where all eight marks are 1; each of the others lacks one. Grown whole, it asks for each mark in turn. */
    static AskTree chain() {
        AskTree x = new AskTree();
        for (int m = 0; m < 8; m++) add(x, 0, allBut(1, m, 0));
        add(x, 1, allBut(1, 0, 1));
        return x;
    }

    /** A class for each of the 256 ways in which eight marks can be 0 or 1, found so that every question gains. */
    private static final String FULLEST =
        "1330022321303201132012311320022110022233002132000130011331122003"
        + "1002300111333021211331022312123120311230032101101003022120123103"
        + "1320123223021231301213030230230213323201221131200312103330022231"
        + "0131230220033023012330211322321301122011013010023300113332112130";

    static AskTree fullest() {
        AskTree x = new AskTree();
        for (int i = 0; i < 256; i++) {
            add(x, FULLEST.charAt(i) - '0', i >> 7, i >> 6 & 1, i >> 5 & 1, i >> 4 & 1, i >> 3 & 1, i >> 2 & 1, i >> 1 & 1, i & 1);
        }
        return x;
    }

    static void fullestTree() {
        says("DEPTH: the most questions from the top to a leaf .. GROWN to a depth d (0 .. 8)");
        AskTree x = fullest();
        for (int d = 0; d <= 8; d++) {
            x.grow(d, 1);
            due("nodes of depth " + d, x.tree(d, 0), (2 << d) - 1);
            due("leaves of depth " + d, x.tree(d, 1), 1 << d);
            due("DEPTH", x.tree(d, 2), d);
        }
        due("WRONG", x.tree(8, 3), 0);
        due("cases", x.tree(8, 4), 256);
        due("those told wrong", x.tree(8, 5), 0);
        refused("node(8, .., 7)", NONE, 0, 510, k -> x.node(8, k, 7));
        leafIs(x, 8, 510, x.node(8, 510, 4), 1, 0, 8);
        say(x, 8, 1, 1, 1, 1, 1, 1, 1, 1);
        due("said()", x.said(), 510);
        due("cut(8, 0, 1)", x.cut(8, 0, 1), 9);
        due("nodes at 0", x.tree(9, 0), 511);
        due("those told wrong", x.tree(9, 5), 0);
        x.cut(8, 10000, 1);
        due("nodes at 10000", x.tree(10, 0), 1);
    }

    // ---- 2: grown

    static void grownToADepthFrom0To8() {
        says("GROWN to a depth d (0 .. 8)");
        AskTree x = chain();
        due("grow(0, 1)", x.grow(0, 1), 0);
        due("grow(8, 1)", x.grow(8, 1), 1);
        refused("grow(.., 1)", NONE, 0, 8, d -> x.grow(d, 1));
        refused("folds(2, .., 1)", NONE, 0, 8, d -> x.folds(2, d, 1));
        due("count(1)", x.count(1), 2);
    }

    static void grownWithALeastCountFrom1To100() {
        says("with a least count l (1 .. 100)");
        AskTree x = chain();
        due("grow(8, 1)", x.grow(8, 1), 0);
        due("grow(8, 100)", x.grow(8, 100), 1);
        due("nodes with the least count 1", x.tree(0, 0), 17);
        due("nodes with the least count 100", x.tree(1, 0), 1);
        refused("grow(8, ..)", NONE, 1, 100, l -> x.grow(8, l));
        refused("folds(2, 8, ..)", NONE, 1, 100, l -> x.folds(2, 8, l));
        due("count(1)", x.count(1), 2);
    }

    static void leafBelowDQuestions() {
        says("a node is a LEAF if d questions are above it");
        AskTree x = chain();
        x.grow(7, 1);
        leafIs(x, 0, 14, 0, 2, 1, 7);
        x.grow(8, 1);
        nodeIs(x, 1, 14, 7, 1, 15, 16, 0, 2, 1, 7, 1);
        leafIs(x, 1, 16, 1, 1, 0, 8);
        AskTree deeper = new AskTree();
        for (int i = 0; i < 300; i++) add(deeper, i % 2, i);
        deeper.grow(8, 1);
        due("DEPTH", deeper.tree(0, 2), 8);
        due("what a ninth question would mend", Integer.signum(deeper.tree(0, 3)), 1);
    }

    static void leafOfOneClass() {
        says("all its cases have one class");
        for (int c = 0; c < 4; c++) {
            AskTree x = new AskTree();
            for (int i = 0; i < 6; i++) add(x, c, i, -i, i % 2);
            x.grow(8, 1);
            due("nodes", x.tree(0, 0), 1);
            leafIs(x, 0, 0, c, 6, 0, 0);
        }
    }

    static void leafWithoutCases() {
        says("(or it has none)");
        AskTree x = new AskTree();
        for (int d = 0; d <= 8; d++) {
            x.grow(d, 1);
            due("nodes", x.tree(d, 0), 1);
        }
    }

    static void leafWhereNoQuestionFits() {
        says("or no question FITS");
        AskTree x = of(new int[] {0, 4, 4}, new int[] {1, 4, 4}, new int[] {1, 4, 4});
        x.grow(8, 1);
        due("nodes", x.tree(0, 0), 1);
        leafIs(x, 0, 0, 1, 3, 1, 0);
    }

    static void vIsTheMarkOfACase() {
        says("One FITS if v is the MARK of one of the node's cases");
        AskTree x = of(new int[] {0, -900}, new int[] {1, 900});
        x.grow(8, 1);
        nodeIs(x, 0, 0, 0, 900);
        AskTree y = of(new int[] {2, 15, 0}, new int[] {2, 15, 0}, new int[] {2, 15, 0}, new int[] {0, 10, 1}, new int[] {1, 20, 1});
        y.grow(8, 1);
        nodeIs(y, 0, 0, 1, 1, 1, 2);
        // 15 would part them as well, but no case of the node has it
        nodeIs(y, 0, 2, 0, 20, 3, 4);
    }

    static void aGapIsNoV() {
        says("a MARK and a number v");
        AskTree number = of(new int[] {0, GAP}, new int[] {1, 5});
        number.grow(8, 1);
        due("nodes", number.tree(0, 0), 1);
        AskTree sort = sortOf(new int[] {0, GAP}, new int[] {0, GAP}, new int[] {1, 5});
        sort.grow(8, 1);
        due("nodes", sort.tree(0, 0), 1);
        AskTree only = sortOf(new int[] {0, GAP}, new int[] {1, GAP});
        only.grow(8, 1);
        due("nodes", only.tree(0, 0), 1);
    }

    private static AskTree halves(int yes, int no) {
        AskTree x = new AskTree();
        addMany(x, yes, 0, 1);
        addMany(x, no, 1, 2);
        return x;
    }

    static void leastCountOnEachSide() {
        says("there are l cases at least on each side");
        int[][] sides = {{1, 1}, {3, 3}, {3, 8}, {8, 3}, {100, 100}, {100, 101}, {101, 100}, {99, 101}, {101, 99}, {99, 99}};
        for (int[] s : sides) {
            AskTree x = halves(s[0], s[1]);
            int fewest = Math.min(s[0], s[1]);
            x.grow(1, Math.min(fewest, 100));
            due("nodes with as many as there are", x.tree(0, 0), 3);
            if (fewest < 100) {
                x.grow(1, fewest + 1);
                due("nodes with one more than there are", x.tree(1, 0), 1);
            }
        }
    }

    static void leastCountWithGaps() {
        says("(GAPS led by the DEFAULT that it would have)");
        // at v = 2 the gaps would be led to NO: one case on YES is too few, though with the gaps it would be four
        AskTree x = of(new int[] {0, 1}, new int[] {1, 2}, new int[] {1, 3}, new int[] {1, 4});
        addMany(x, 3, 0, GAP);
        x.grow(1, 2);
        nodeIs(x, 0, 0, 0, 3, 1, 2, 0, 7, 3, 0, 1);
        sharesAre(x, 0, 1, 4, 1, 0, 0);
        sharesAre(x, 0, 2, 0, 2, 0, 0);
    }

    static void noGain() {
        says("and its GAIN is above 0");
        AskTree x = of(new int[] {0, 1}, new int[] {1, 1}, new int[] {0, 2}, new int[] {1, 2});
        x.grow(8, 1);
        due("nodes where the gain is 0", x.tree(0, 0), 1);
        AskTree thirds = of(new int[] {0, 1}, new int[] {0, 1}, new int[] {1, 1});
        for (int i = 0; i < 2; i++) into(thirds, new int[] {0, 2}, new int[] {0, 2}, new int[] {1, 2});
        thirds.grow(8, 1);
        due("nodes where the gain is 0", thirds.tree(0, 0), 1);
    }

    static void leastGain() {
        says("and its GAIN is above 0");
        AskTree x = new AskTree();
        addMany(x, 75, 0, 1);
        addMany(x, 74, 1, 1);
        addMany(x, 76, 0, 2);
        addMany(x, 75, 1, 2);
        x.grow(8, 1);
        // it is 2 / (300 * 149 * 151)
        nodeIs(x, 0, 0, 0, 2, 1, 2, 0, 300, 149, 0, 0);
    }

    /** 151 cases of class 0 and 149 of class 1; so many of each have mark 0, or mark 1, below 2. */
    private static AskTree splits(int first0, int first1, int next0, int next1) {
        AskTree x = new AskTree();
        for (int i = 0; i < 151; i++) add(x, 0, i < first0 ? 1 : 2, i < next0 ? 1 : 2);
        for (int i = 0; i < 149; i++) add(x, 1, i < first1 ? 1 : 2, i < next1 ? 1 : 2);
        return x;
    }

    static void greatestGain() {
        says("The one with the greatest GAIN is taken");
        // the gains are 0.0000002 apart
        AskTree x = splits(113, 110, 36, 37);
        x.grow(1, 1);
        nodeIs(x, 0, 0, 1, 2);
        AskTree y = splits(36, 37, 113, 110);
        y.grow(1, 1);
        nodeIs(y, 0, 0, 0, 2);
    }

    static void sameGainLeastMark() {
        says("of several that of the least MARK");
        AskTree x = of(new int[] {0, 5, 9, -7, 0, 0, 0, 1, 1}, new int[] {1, 5, 8, -6, 0, 0, 0, 2, 2});
        x.grow(1, 1);
        nodeIs(x, 0, 0, 1, 9);
        // 25 and 135 cases on YES, and yet the same gain: 8252 / 55 less the node's own
        AskTree y = splits(69, 66, 12, 13);
        y.grow(1, 1);
        nodeIs(y, 0, 0, 0, 2);
        AskTree z = splits(12, 13, 69, 66);
        z.grow(1, 1);
        nodeIs(z, 0, 0, 0, 2);
    }

    static void sameGainLeastV() {
        says("then the least v");
        AskTree x = of(new int[] {0, 3}, new int[] {1, -2}, new int[] {0, -5});
        x.grow(1, 1);
        nodeIs(x, 0, 0, 0, -2);
        AskTree sort = sortOf(new int[] {0, 7}, new int[] {1, -9}, new int[] {2, 0});
        sort.grow(1, 1);
        nodeIs(sort, 0, 0, 0, -9);
    }

    // ---- 2: best

    /** Both marks are needed: 0 wrong with three questions, 2 with fewer. */
    private static AskTree cross() {
        return of(new int[] {0, 0, 0}, new int[] {1, 1, 0}, new int[] {1, 0, 1}, new int[] {0, 1, 1});
    }

    static void bestOfADepthFrom0To2() {
        says("BEST of a depth d (0 .. 2)");
        AskTree x = of(new int[] {0, 1}, new int[] {0, 1}, new int[] {1, 2}, new int[] {1, 2}, new int[] {0, 3});
        due("best(0)", x.best(0), 0);
        due("best(1)", x.best(1), 1);
        due("best(2)", x.best(2), 2);
        int[] wrong = {2, 1, 0};
        for (int d = 0; d <= 2; d++) {
            due("DEPTH of best(" + d + ")", x.tree(d, 2), d);
            due("WRONG of best(" + d + ")", x.tree(d, 3), wrong[d]);
        }
        refused("best", NONE, 0, 2, d -> x.best(d));
        due("count(1)", x.count(1), 3);
    }

    static void bestOfNoDeeperTree() {
        says("of all trees of at most that DEPTH");
        AskTree x = new AskTree();
        for (int i = 0; i < 8; i++) add(x, i % 2, i);
        x.best(2);
        due("DEPTH", x.tree(0, 2), 2);
        due("leaves", x.tree(0, 1), 4);
        due("WRONG: four leaves for eight turns of the class", x.tree(0, 3), 2);
    }

    static void bestOfAtMost50() {
        says("for at most 50 cases");
        AskTree x = new AskTree();
        addMany(x, 25, 0, 1, 5);
        addMany(x, 25, 1, 2, 5);
        due("best of 50", x.best(2), 0);
        nodeIs(x, 0, 0, 0, 2, 1, 2, 0, 50, 25, 0, 1);
        add(x, 0, 1, 5);
        for (int d = 0; d <= 2; d++) due("best(" + d + ") of 51", x.best(d), MANY);
        x.drop(50);
        due("best of 50 again", x.best(1), 1);
        for (int i = 50; i < 300; i++) add(x, 0);
        due("best of 300", x.best(0), MANY);
    }

    static void bestWithoutGaps() {
        says("without GAPS");
        for (int m = 0; m < 8; m++) {
            AskTree x = of(new int[] {0, 1}, new int[] {1, 2});
            add(x, 0, allBut(3, m, GAP));
            for (int d = 0; d <= 2; d++) due("best(" + d + ") with a GAP in mark " + m, x.best(d), GAPS);
            x.drop(2);
            due("best when it is gone", x.best(2), 0);
        }
        AskTree first = new AskTree();
        add(first, 0, GAP);
        due("best of a GAP alone", first.best(0), GAPS);
        addMany(first, 49, 1, 2);
        due("best of 50 with a GAP in the first", first.best(0), GAPS);
        first.drop(0);
        due("best when it is gone", first.best(0), 0);
        AskTree alone = new AskTree();
        add(alone, 0, GAP, GAP);
        alone.drop(0);
        due("best when no case is left", alone.best(2), 0);
    }

    static void bestVIsTheMarkOfACase() {
        says("in which each v is the MARK of one of the node's cases");
        AskTree x = of(new int[] {2, 0, 15}, new int[] {2, 0, 15}, new int[] {0, 1, 10}, new int[] {1, 1, 20});
        x.best(2);
        nodeIs(x, 0, 0, 0, 1, 1, 2);
        nodeIs(x, 0, 2, 1, 20, 3, 4);
    }

    static void bestHasACaseOnEachSide() {
        says("and each side has a case");
        AskTree same = of(new int[] {0, 4}, new int[] {1, 4}, new int[] {2, 4});
        AskTree sort = sortOf(new int[] {0, 4}, new int[] {1, 4}, new int[] {2, 4});
        AskTree one = of(new int[] {3, 4});
        int t = 0;
        for (AskTree x : new AskTree[] {same, sort, one}) {
            x.best(2);
            due("nodes", x.tree(0, 0), 1);
            due("CLASS", x.node(0, 0, 4), t++ < 2 ? 0 : 3);
        }
    }

    static void bestHasTheFewestWrong() {
        says("the one with the fewest WRONG");
        AskTree x = cross();
        x.best(2);
        due("WRONG", x.tree(0, 3), 0);
        due("leaves", x.tree(0, 1), 4);
        // five leaves would be needed, there are four
        AskTree y = cross();
        into(y, new int[] {0, 0, 0}, new int[] {2, 9, 2}, new int[] {2, 9, 2});
        y.best(2);
        due("WRONG", y.tree(0, 3), 1);
        // one wrong less for two questions more
        AskTree z = of(new int[] {0, 1}, new int[] {1, 2}, new int[] {0, 3}, new int[] {0, 4});
        z.best(1);
        due("WRONG of one question", z.tree(0, 3), 1);
        z.best(2);
        due("WRONG of two", z.tree(1, 3), 0);
    }

    static void bestHasTheFewestQuestions() {
        says("of several with the fewest questions");
        // the question gains, but mends nothing
        AskTree x = of(new int[] {0, 1}, new int[] {0, 1}, new int[] {0, 2}, new int[] {0, 2}, new int[] {1, 2});
        x.grow(2, 1);
        due("nodes of the grown tree", x.tree(0, 0), 3);
        x.best(2);
        due("nodes of the best", x.tree(1, 0), 1);
        // three questions from mark 0 on, two from mark 1 on
        AskTree y = of(new int[] {0, 0, 0}, new int[] {1, 0, 1}, new int[] {1, 1, 1}, new int[] {0, 1, 2});
        y.best(2);
        due("nodes", y.tree(0, 0), 5);
        nodeIs(y, 0, 0, 1, 1, 1, 2);
        // one question at mark 7, two from mark 0 on
        AskTree z = of(new int[] {0, 1, 0, 0, 0, 0, 0, 0, 1}, new int[] {1, 2, 0, 0, 0, 0, 0, 0, 2}, new int[] {0, 3, 0, 0, 0, 0, 0, 0, 1});
        z.best(2);
        due("nodes", z.tree(0, 0), 3);
        nodeIs(z, 0, 0, 7, 2);
        // three questions from mark 0 on, two from mark 1 on, with a leaf below NO
        AskTree no = of(new int[] {0, 0, 2}, new int[] {1, 0, 1}, new int[] {1, 1, 1}, new int[] {0, 1, 0});
        no.best(2);
        due("nodes", no.tree(0, 0), 5);
        nodeIs(no, 0, 0, 1, 1, 1, 2);
        AskTree leafNo = of(new int[] {0, 0, 0}, new int[] {1, 0, 1}, new int[] {2, 1, 2}, new int[] {2, 0, 2});
        leafNo.best(2);
        due("nodes", leafNo.tree(0, 0), 5);
        nodeIs(leafNo, 0, 0, 1, 1, 1, 2);
        // after a tree of three questions, one of none on the same object
        AskTree next = cross();
        next.best(2);
        for (int i = 0; i < 4; i++) next.drop(0);
        into(next, new int[] {0, 1}, new int[] {0, 1}, new int[] {0, 2}, new int[] {0, 2}, new int[] {1, 2});
        next.best(2);
        due("nodes", next.tree(1, 0), 1);
    }

    static void bestTopmostLeastMark() {
        says("by the topmost question, the least MARK");
        AskTree x = of(new int[] {0, 5, 9, -7, 0, 0, 0, 1, 1}, new int[] {1, 5, 8, -6, 0, 0, 0, 2, 2});
        for (int d = 1; d <= 2; d++) {
            x.best(d);
            nodeIs(x, d - 1, 0, 1, 9);
        }
        // two questions are needed, and each mark can be the topmost: {0, 1} of {0, 1, 2}
        AskTree y = of(new int[] {0, 0, 0}, new int[] {1, 1, 0}, new int[] {2, 1, 1});
        y.best(2);
        due("nodes", y.tree(0, 0), 5);
        nodeIs(y, 0, 0, 0, 1, 1, 2);
        nodeIs(y, 0, 2, 1, 1, 3, 4);
        // the same with the leaf on the other side
        AskTree z = of(new int[] {0, 0, 0}, new int[] {1, 0, 1}, new int[] {2, 1, 1});
        z.best(2);
        due("nodes", z.tree(0, 0), 5);
        nodeIs(z, 0, 0, 0, 1, 1, 4);
        nodeIs(z, 0, 1, 1, 1, 2, 3);
    }

    static void bestTopmostLeastV() {
        says("then the least v");
        AskTree x = of(new int[] {0, -3}, new int[] {1, -2}, new int[] {2, 5});
        x.best(1);
        nodeIs(x, 0, 0, 0, -2);
        x.best(2);
        nodeIs(x, 1, 0, 0, -2, 1, 2);
        nodeIs(x, 1, 2, 0, 5, 3, 4);
        AskTree sort = sortOf(new int[] {0, 7}, new int[] {1, -9}, new int[] {2, 0});
        sort.best(2);
        nodeIs(sort, 0, 0, 0, -9, 1, 2);
        nodeIs(sort, 0, 2, 0, 0, 3, 4);
    }

    static void bestThenBelowYes() {
        says("then by what is below YES");
        // below YES marks 1 and 2 do, below NO mark 3 alone
        AskTree x = of(
            new int[] {0, 0, 4, 1, 0}, new int[] {1, 0, 8, 2, 0}, new int[] {0, 0, 4, 1, 0}, new int[] {1, 0, 8, 2, 0},
            new int[] {2, 1, 6, 0, 0}, new int[] {3, 1, 6, 0, 1}, new int[] {2, 1, 6, 0, 0}, new int[] {3, 1, 6, 0, 1});
        x.best(2);
        nodeIs(x, 0, 0, 0, 1, 1, 4);
        nodeIs(x, 0, 1, 1, 8, 2, 3);
        nodeIs(x, 0, 4, 3, 1, 5, 6);
        AskTree v = twoTurns(0);
        v.best(2);
        nodeIs(v, 0, 0, 0, 1, 1, 4);
        nodeIs(v, 0, 1, 1, 2, 2, 3);
    }

    static void bestThenBelowNo() {
        says("then below NO, likewise");
        AskTree x = of(
            new int[] {0, 1, 4, 1, 0}, new int[] {1, 1, 8, 2, 0}, new int[] {0, 1, 4, 1, 0}, new int[] {1, 1, 8, 2, 0},
            new int[] {2, 0, 6, 0, 0}, new int[] {3, 0, 6, 0, 1}, new int[] {2, 0, 6, 0, 0}, new int[] {3, 0, 6, 0, 1});
        x.best(2);
        nodeIs(x, 0, 0, 0, 1, 1, 4);
        nodeIs(x, 0, 1, 3, 1, 2, 3);
        nodeIs(x, 0, 4, 1, 8, 5, 6, 0, 4, 2, 1, 1);
        AskTree v = twoTurns(1);
        v.best(2);
        nodeIs(v, 0, 0, 0, 1, 1, 4);
        nodeIs(v, 0, 4, 1, 2, 5, 6, 0, 6, 3, 1, 0);
    }

    static void bestWithSorts() {
        says("of all trees of at most that DEPTH .. by the topmost question, the least MARK, then the least v");
        // mark 1 must be asked on both sides of "mark 0 is v": no one question mends anything
        for (int v = 0; v < 3; v++) {
            AskTree x = new AskTree();
            x.sort(0, 1);
            x.sort(1, 1);
            for (int i = 0; i < 6; i++) {
                boolean one = i % 3 == v, other = i / 3 == 0;
                add(x, one == other ? 3 : 2, i % 3, i / 3);
                if (one) add(x, one == other ? 3 : 2, i % 3, i / 3);
            }
            x.best(1);
            due("nodes of one question", x.tree(0, 0), 1);
            x.best(2);
            nodeIs(x, 1, 0, 0, v, 1, 4, 2, 8, 4, 0, 1);
            nodeIs(x, 1, 1, 1, 0, 2, 3, 2, 4, 2, 1, 1);
            nodeIs(x, 1, 4, 1, 0, 5, 6, 2, 4, 2, 1, 1);
            due("WRONG", x.tree(1, 3), 0);
        }
        // the greatest v alone does it
        AskTree last = sortOf(new int[] {0, 1}, new int[] {0, 2}, new int[] {0, 3}, new int[] {1, 4}, new int[] {1, 4});
        last.best(1);
        nodeIs(last, 0, 0, 0, 4, 1, 2, 0, 5, 2, 0, 0);
        AskTree middle = sortOf(new int[] {0, 1}, new int[] {0, 2}, new int[] {1, 3}, new int[] {1, 3}, new int[] {0, 4});
        middle.best(1);
        nodeIs(middle, 0, 0, 0, 3, 1, 2, 0, 5, 2, 0, 0);
    }

    /** Where mark 0 is as given, mark 1 can be asked for 2 or for 4: one wrong by each; else mark 2 parts without a fault. */
    private static AskTree twoTurns(int at) {
        AskTree x = new AskTree();
        int[][] turns = {{0, 1}, {0, 1}, {1, 2}, {0, 3}, {1, 4}, {1, 4}};
        for (int[] t : turns) add(x, t[0], at, t[1], 0);
        addMany(x, 4, 2, 1 - at, 0, 0);
        addMany(x, 4, 3, 1 - at, 0, 1);
        return x;
    }

    // ---- 2: cut

    static void cutTheLeastTogether() {
        says("q times WRONG and p times the count of its leaves are the least together");
        AskTree x = cross();
        x.best(2);
        // 0 wrong with four leaves against 2 wrong with one: 4 p against 2 q + p
        int[][] cuts = {{0, 1, 4}, {1, 10000, 4}, {1, 2, 4}, {6666, 10000, 4}, {6667, 10000, 1}, {1, 1, 1}, {10000, 1, 1}};
        for (int i = 0; i < cuts.length; i++) {
            x.cut(0, cuts[i][0], cuts[i][1]);
            due("leaves at " + cuts[i][0] + " / " + cuts[i][1], x.tree(i + 1, 1), cuts[i][2]);
        }
    }

    static void cutOfSeveralTheFewestLeaves() {
        says("of several the one with the fewest leaves");
        AskTree x = cross();
        x.best(2);
        x.cut(0, 2, 3);
        due("leaves at 2 / 3", x.tree(1, 1), 1);
        x.cut(0, 6666, 9999);
        due("leaves at 6666 / 9999", x.tree(2, 1), 1);
        AskTree free = of(new int[] {0, 1}, new int[] {0, 1}, new int[] {0, 2}, new int[] {0, 2}, new int[] {1, 2});
        free.grow(1, 1);
        due("leaves", free.tree(0, 1), 2);
        free.cut(0, 0, 1);
        due("leaves at 0, where the question mends nothing", free.tree(1, 1), 1);
    }

    static void cutMakesLeavesOfSomeNodes() {
        says("of all trees that come of a tree by making LEAVES of some of its nodes");
        // a question below YES that mends nothing, one below NO that mends two
        AskTree x = of(new int[] {0, 0, 0}, new int[] {0, 0, 0}, new int[] {0, 0, 1}, new int[] {1, 0, 1}, new int[] {0, 0, 1});
        addMany(x, 3, 2, 9, 0);
        addMany(x, 2, 3, 9, 1);
        x.grow(2, 1);
        due("leaves", x.tree(0, 1), 4);
        x.cut(0, 0, 1);
        due("leaves at 0", x.tree(1, 1), 3);
        nodeIs(x, 1, 0, 0, 9, 1, 2, 0, 10, 6, 0, 1);
        leafIs(x, 1, 1, 0, 5, 1, 1);
        nodeIs(x, 1, 2, 1, 1, 3, 4, 2, 5, 2, 1, 1);
        leafIs(x, 1, 3, 2, 3, 0, 2);
        leafIs(x, 1, 4, 3, 2, 0, 2);
    }

    static void cutOfTheGreatestNumbers() {
        says("q times WRONG and p times the count of its leaves are the least together");
        AskTree x = new AskTree();
        for (int i = 0; i < 300; i++) add(x, i % 4, i * 7 % 300, i * 11 % 300);
        x.grow(8, 1);
        due("cut(0, 10000, 10000)", x.cut(0, 10000, 10000), 1);
        due("cut(0, 1, 1)", x.cut(0, 1, 1), 2);
        due("leaves at 10000 / 10000 as at 1 / 1", x.tree(1, 1), x.tree(2, 1));
        due("WRONG at 10000 / 10000 as at 1 / 1", x.tree(1, 3), x.tree(2, 3));
        x.cut(0, 0, 10000);
        due("WRONG at 0", x.tree(3, 3), x.tree(0, 3));
        x.cut(0, 10000, 1);
        leafIs(x, 4, 0, 0, 300, 225, 0);
    }

    // ---- 3: refusals

    static void numbersOfTheRefusals() {
        says("NONE (-1) .. MANY (-2) .. GAPS (-3) .. FULL (-4)");
        due("NONE", AskTree.NONE, -1);
        due("MANY", AskTree.MANY, -2);
        due("GAPS", AskTree.GAPS, -3);
        due("FULL", AskTree.FULL, -4);
    }

    static void firstThatHoldsOfAdd() {
        says("REFUSALS, the first that holds: NONE .. FULL (-4): 300 cases");
        AskTree x = new AskTree();
        addMany(x, 300, 1);
        due("FULL alone", add(x, 0), FULL);
        due("FULL, with gaps", add(x, 3, GAP, GAP), FULL);
        refused("NONE by the class, and FULL", NONE, 0, 3, c -> x.add(c, 0, 0, 0, 0));
        for (int bad : BAD_MARKS) due("NONE by a mark, and FULL", add(x, 0, 0, 0, 0, 0, 0, 0, 0, bad), NONE);
    }

    static void firstThatHoldsOfGrow() {
        says("REFUSALS, the first that holds: NONE .. FULL (-4): .. 20 trees");
        AskTree x = new AskTree();
        fillTrees(x);
        due("FULL alone", x.grow(8, 100), FULL);
        refused("NONE by the depth, and FULL", NONE, 0, 8, d -> x.grow(d, 1));
        refused("NONE by the least count, and FULL", NONE, 1, 100, l -> x.grow(1, l));
    }

    static void firstThatHoldsOfCut() {
        says("REFUSALS, the first that holds: NONE .. FULL (-4): .. 20 trees");
        AskTree x = new AskTree();
        fillTrees(x);
        due("FULL alone", x.cut(19, 10000, 10000), FULL);
        due("FULL alone", x.cut(0, 0, 1), FULL);
        refused("NONE by the tree, and FULL", NONE, 0, 19, t -> x.cut(t, 1, 1));
        refused("NONE by p, and FULL", NONE, 0, 10000, p -> x.cut(0, p, 1));
        refused("NONE by q, and FULL", NONE, 1, 10000, q -> x.cut(0, 1, q));
    }

    /** Each of the sixteen sets of reasons to refuse best(), with the first that holds. */
    static void firstThatHoldsOfBest() {
        says("REFUSALS, the first that holds: NONE .. MANY (-2): more than 50 cases; GAPS (-3): as told; FULL (-4)");
        for (int reasons = 0; reasons < 16; reasons++) {
            boolean none = (reasons & 1) != 0, many = (reasons & 2) != 0, gaps = (reasons & 4) != 0, full = (reasons & 8) != 0;
            AskTree x = new AskTree();
            if (full) fillTrees(x);
            addMany(x, many ? 50 : 49, 0, 1);
            add(x, 1, 2, 0, 0, 0, 0, 0, 0, gaps ? GAP : 0);
            int want = none ? NONE : many ? MANY : gaps ? GAPS : full ? FULL : 0;
            for (int d : none ? outside(0, 2) : new int[] {2}) due("best(" + d + ") for the reasons " + reasons, x.best(d), want);
        }
    }

    static void eachObjectHasItsOwn() {
        says("All memory is the class's own");
        AskTree x = sortOf(new int[] {0, 1}, new int[] {1, 2}, new int[] {0, 3});
        AskTree y = of(new int[] {2, 5}, new int[] {3, 9});
        x.grow(8, 1);
        y.best(1);
        AskTree z = new AskTree();
        say(x, 0, 2);
        near(x, 0, 2);
        vote(x, 2);
        y.folds(2, 8, 1);
        due("x: said()", x.said(), 1);
        due("x: turned(0)", x.turned(0), 0);
        due("x: voices()", x.voices(), 1);
        nodeIs(x, 0, 0, 0, 2, 1, 2, 0, 3, 1, 0, 0);
        due("y: said()", y.said(), NONE);
        due("y: voices()", y.voices(), NONE);
        due("y: turned(0)", y.turned(0), NO_SUCH);
        nodeIs(y, 0, 0, 0, 9, 1, 2, 2, 2, 1, 0, 1);
        due("z: count(0)", z.count(0), 0);
        due("z: count(1)", z.count(1), 0);
        due("z: sort(0, 0)", z.sort(0, 0), 0);
    }
}
