import java.util.ArrayList;
import java.util.Collections;
import java.util.List;
import java.util.TreeSet;

/**
 * The document once more, as naively as its words allow: every question counted anew, every tree of a
 * depth and every cut tree written out. It shares nothing with AskTree, so that the two can be compared.
 */
final class Oracle {
    static final int GAP = -32768;

    static final class Case {
        final int cls;
        final int[] marks;

        Case(int cls, int[] marks) {
            this.cls = cls;
            this.marks = marks;
        }
    }

    static final class Node {
        int mark = -1, v = 0, way = 0, above = 0;
        Node yes, no;
        final int[] share = new int[4];

        boolean leaf() {
            return mark < 0;
        }

        int cases() {
            return share[0] + share[1] + share[2] + share[3];
        }

        int cls() {
            int best = 0;
            for (int c = 1; c < 4; c++) {
                if (share[c] > share[best]) best = c;
            }
            return best;
        }

        int wrong() {
            return cases() - share[cls()];
        }
    }

    final int[] kind = new int[8];
    final List<Case> cases = new ArrayList<>();
    final List<Node> trees = new ArrayList<>();
    int said = -1;
    int voices = -1;
    int[] turned = null;

    static int[] unpack(int a, int b, int c, int d) {
        int[] pairs = {a, b, c, d};
        int[] marks = new int[8];
        for (int i = 0; i < 4; i++) {
            marks[2 * i] = (short) (pairs[i] >>> 16);
            marks[2 * i + 1] = (short) (pairs[i] & 0xffff);
        }
        for (int m : marks) {
            if (m != GAP && (m < -1000 || m > 1000)) return null;
        }
        return marks;
    }

    int sort(int mark, int how) {
        if (mark < 0 || mark > 7 || how < 0 || how > 1) return -1;
        if (!cases.isEmpty() || !trees.isEmpty()) return -1;
        int was = kind[mark];
        kind[mark] = how;
        return was;
    }

    int add(int cls, int a, int b, int c, int d) {
        int[] marks = unpack(a, b, c, d);
        if (cls < 0 || cls > 3 || marks == null) return -1;
        if (cases.size() == 300) return -4;
        cases.add(new Case(cls, marks));
        return cases.size() - 1;
    }

    int drop(int i) {
        if (i < 0 || i >= cases.size()) return -1;
        cases.remove(i);
        return cases.size();
    }

    int mark(int i, int mark) {
        if (i < 0 || i >= cases.size() || mark < 0 || mark > 7) return -40000;
        return cases.get(i).marks[mark];
    }

    int cls(int i) {
        return i < 0 || i >= cases.size() ? -1 : cases.get(i).cls;
    }

    private boolean answersYes(int mark, int v, int x) {
        return kind[mark] == 1 ? x == v : x < v;
    }

    /** YES cases first, NO cases second; sets the default of the node. */
    private List<List<Case>> part(Node at, List<Case> here, int mark, int v) {
        int yes = 0, no = 0;
        for (Case c : here) {
            if (c.marks[mark] == GAP) continue;
            if (answersYes(mark, v, c.marks[mark])) yes++;
            else no++;
        }
        at.way = yes >= no ? 1 : 0;
        List<List<Case>> sides = List.of(new ArrayList<>(), new ArrayList<>());
        for (Case c : here) {
            int x = c.marks[mark];
            boolean toYes = x == GAP ? at.way == 1 : answersYes(mark, v, x);
            sides.get(toYes ? 0 : 1).add(c);
        }
        return sides;
    }

    private static TreeSet<Integer> valuesOf(List<Case> here, int mark) {
        TreeSet<Integer> values = new TreeSet<>();
        for (Case c : here) {
            if (c.marks[mark] != GAP) values.add(c.marks[mark]);
        }
        return values;
    }

    private static Node leafOf(List<Case> here, int above) {
        Node node = new Node();
        node.above = above;
        for (Case c : here) node.share[c.cls]++;
        return node;
    }

    /** The sum of squares of the classes over how many there are, as {upper, lower}. */
    private static long[] purity(List<Case> here) {
        long squares = 0;
        for (int s : leafOf(here, 0).share) squares += (long) s * s;
        return new long[] {squares, here.size()};
    }

    private static long[] plus(long[] a, long[] b, int sign) {
        return new long[] {a[0] * b[1] + sign * b[0] * a[1], a[1] * b[1]};
    }

    Node grown(List<Case> here, int depth, int least, int above) {
        Node node = leafOf(here, above);
        if (above == depth || node.wrong() == 0) return node;
        long[] best = null;
        int bestMark = -1, bestV = 0;
        for (int mark = 0; mark < 8; mark++) {
            for (int v : valuesOf(here, mark)) {
                List<List<Case>> sides = part(new Node(), here, mark, v);
                if (sides.get(0).size() < least || sides.get(1).size() < least) continue;
                long[] gain = plus(plus(purity(sides.get(0)), purity(sides.get(1)), 1), purity(here), -1);
                if (gain[0] <= 0) continue;
                if (best == null || gain[0] * best[1] > best[0] * gain[1]) {
                    best = gain;
                    bestMark = mark;
                    bestV = v;
                }
            }
        }
        if (best == null) return node;
        List<List<Case>> sides = part(node, here, bestMark, bestV);
        node.mark = bestMark;
        node.v = bestV;
        node.yes = grown(sides.get(0), depth, least, above + 1);
        node.no = grown(sides.get(1), depth, least, above + 1);
        return node;
    }

    int grow(int depth, int least) {
        if (depth < 0 || depth > 8 || least < 1 || least > 100) return -1;
        if (trees.size() == 20) return -4;
        trees.add(grown(cases, depth, least, 0));
        return trees.size() - 1;
    }

    /** All trees of at most a depth, in the order in which they come. */
    private List<Node> allTrees(List<Case> here, int depth, int above) {
        List<Node> all = new ArrayList<>();
        all.add(leafOf(here, above));
        if (depth == 0) return all;
        for (int mark = 0; mark < 8; mark++) {
            for (int v : valuesOf(here, mark)) {
                Node asks = leafOf(here, above);
                List<List<Case>> sides = part(asks, here, mark, v);
                if (sides.get(0).isEmpty() || sides.get(1).isEmpty()) continue;
                List<Node> belowYes = allTrees(sides.get(0), depth - 1, above + 1);
                List<Node> belowNo = allTrees(sides.get(1), depth - 1, above + 1);
                for (Node yes : belowYes) {
                    for (Node no : belowNo) all.add(asking(asks, mark, v, yes, no));
                }
            }
        }
        return all;
    }

    private static Node asking(Node like, int mark, int v, Node yes, Node no) {
        Node node = cutToLeaf(like);
        node.mark = mark;
        node.v = v;
        node.way = like.way;
        node.yes = yes;
        node.no = no;
        return node;
    }

    private static Node cutToLeaf(Node like) {
        Node node = new Node();
        node.above = like.above;
        System.arraycopy(like.share, 0, node.share, 0, 4);
        return node;
    }

    static List<Node> nodes(Node top) {
        List<Node> all = new ArrayList<>();
        all.add(top);
        if (!top.leaf()) {
            all.addAll(nodes(top.yes));
            all.addAll(nodes(top.no));
        }
        return all;
    }

    static int leaves(Node top) {
        return top.leaf() ? 1 : leaves(top.yes) + leaves(top.no);
    }

    static int wrongOf(Node top) {
        return top.leaf() ? top.wrong() : wrongOf(top.yes) + wrongOf(top.no);
    }

    static int depthOf(Node top) {
        return top.leaf() ? 0 : 1 + Math.max(depthOf(top.yes), depthOf(top.no));
    }

    /** How many trees best() would have to write out here, for a test to see whether it can. */
    long bestWork() {
        long questions = 0;
        for (int mark = 0; mark < 8; mark++) questions += valuesOf(cases, mark).size();
        return questions * questions * questions;
    }

    int best(int depth) {
        if (depth < 0 || depth > 2) return -1;
        if (cases.size() > 50) return -2;
        for (Case c : cases) {
            for (int m : c.marks) if (m == GAP) return -3;
        }
        if (trees.size() == 20) return -4;
        Node best = null;
        for (Node tree : allTrees(cases, depth, 0)) {
            if (best == null || wrongOf(tree) < wrongOf(best)
                    || wrongOf(tree) == wrongOf(best) && leaves(tree) < leaves(best)) {
                best = tree;
            }
        }
        trees.add(best);
        return trees.size() - 1;
    }

    static double cutWork(Node top) {
        return top.leaf() ? 1 : 1 + cutWork(top.yes) * cutWork(top.no);
    }

    private static List<Node> allCuts(Node top) {
        List<Node> all = new ArrayList<>();
        all.add(cutToLeaf(top));
        if (top.leaf()) return all;
        for (Node yes : allCuts(top.yes)) {
            for (Node no : allCuts(top.no)) all.add(asking(top, top.mark, top.v, yes, no));
        }
        return all;
    }

    private Node treeAt(int tree) {
        return tree < 0 || tree >= trees.size() ? null : trees.get(tree);
    }

    int cut(int tree, int p, int q) {
        Node from = treeAt(tree);
        if (from == null || p < 0 || p > 10000 || q < 1 || q > 10000) return -1;
        if (trees.size() == 20) return -4;
        Node best = null;
        long bestCost = 0;
        for (Node t : allCuts(from)) {
            long cost = (long) q * wrongOf(t) + (long) p * leaves(t);
            if (best == null || cost < bestCost || cost == bestCost && leaves(t) < leaves(best)) {
                best = t;
                bestCost = cost;
            }
        }
        trees.add(best);
        return trees.size() - 1;
    }

    int price(int tree, int what) {
        Node from = treeAt(tree);
        if (from == null || what < 0 || what > 1 || from.leaf()) return -1;
        int up = -1, low = 1;
        for (Node t : allCuts(from)) {
            int fewer = leaves(from) - leaves(t);
            int more = wrongOf(t) - wrongOf(from);
            if (fewer > 0 && (up < 0 || more * low < up * fewer)) {
                up = more;
                low = fewer;
            }
        }
        for (int d = low; d > 1; d--) {
            if (up % d == 0 && low % d == 0) {
                up /= d;
                low /= d;
            }
        }
        return what == 0 ? up : up == 0 ? 1 : low;
    }

    private Node lead(Node top, int[] marks) {
        Node at = top;
        while (!at.leaf()) {
            int x = marks[at.mark];
            boolean yes = x == GAP ? at.way == 1 : answersYes(at.mark, at.v, x);
            at = yes ? at.yes : at.no;
        }
        return at;
    }

    int folds(int k, int depth, int least) {
        if (k < 2 || k > 10 || depth < 0 || depth > 8 || least < 1 || least > 100) return -1;
        int wrong = 0;
        for (int f = 0; f < k; f++) {
            List<Case> rest = new ArrayList<>();
            for (int i = 0; i < cases.size(); i++) if (i % k != f) rest.add(cases.get(i));
            Node tree = grown(rest, depth, least, 0);
            for (int i = 0; i < cases.size(); i++) {
                if (i % k == f && lead(tree, cases.get(i).marks).cls() != cases.get(i).cls) wrong++;
            }
        }
        return wrong;
    }

    int remove() {
        if (trees.isEmpty()) return -1;
        trees.remove(trees.size() - 1);
        return trees.size();
    }

    int tree(int tree, int what) {
        Node of = treeAt(tree);
        if (of == null || what < 0 || what > 5) return -1;
        if (what == 0) return nodes(of).size();
        if (what == 1) return leaves(of);
        if (what == 2) return depthOf(of);
        if (what == 3) return wrongOf(of);
        if (what == 4) return of.cases();
        int wrong = 0;
        for (Case c : cases) if (lead(of, c.marks).cls() != c.cls) wrong++;
        return wrong;
    }

    private Node nodeAt(int tree, int node) {
        Node of = treeAt(tree);
        if (of == null) return null;
        List<Node> all = nodes(of);
        return node < 0 || node >= all.size() ? null : all.get(node);
    }

    int node(int tree, int node, int what) {
        Node at = nodeAt(tree, node);
        if (at == null || what < 0 || what > 8) return -1;
        List<Node> all = nodes(treeAt(tree));
        int[] answers = {
            at.mark, at.v, all.indexOf(at.yes), all.indexOf(at.no), at.cls(), at.cases(), at.wrong(), at.above, at.way
        };
        return answers[what];
    }

    int share(int tree, int node, int cls) {
        Node at = nodeAt(tree, node);
        return at == null || cls < 0 || cls > 3 ? -1 : at.share[cls];
    }

    int say(int tree, int a, int b, int c, int d) {
        Node of = treeAt(tree);
        int[] marks = unpack(a, b, c, d);
        if (of == null || marks == null) return -1;
        Node leaf = lead(of, marks);
        said = nodes(of).indexOf(leaf);
        return leaf.cls();
    }

    int said() {
        return said;
    }

    int vote(int a, int b, int c, int d) {
        int[] marks = unpack(a, b, c, d);
        if (trees.isEmpty() || marks == null) return -1;
        Node ballots = new Node();
        for (Node t : trees) ballots.share[lead(t, marks).cls()]++;
        voices = ballots.share[ballots.cls()];
        return ballots.cls();
    }

    int voices() {
        return voices;
    }

    /** The questions above a leaf about a mark, each as {v, 1 if the leaf is on its YES side}. */
    private static List<int[]> path(Node top, Node leaf, int mark) {
        List<int[]> asked = new ArrayList<>();
        Node at = top;
        while (at != leaf) {
            boolean yes = nodes(at.yes).contains(leaf);
            if (at.mark == mark) asked.add(new int[] {at.v, yes ? 1 : 0});
            at = yes ? at.yes : at.no;
        }
        return asked;
    }

    /** All numbers of -1000 .. 1000 that a leaf lets a mark be. */
    private List<Integer> allowed(Node top, Node leaf, int mark) {
        List<int[]> asked = path(top, leaf, mark);
        List<Integer> may = new ArrayList<>();
        for (int x = -1000; x <= 1000; x++) {
            boolean follows = true;
            for (int[] q : asked) follows &= answersYes(mark, q[0], x) == (q[1] == 1);
            if (follows) may.add(x);
        }
        return may;
    }

    int rule(int tree, int leaf, int mark, int what) {
        Node at = nodeAt(tree, leaf);
        if (at == null || !at.leaf() || mark < 0 || mark > 7 || what < 0 || what > 1) return -40000;
        List<Integer> may = allowed(treeAt(tree), at, mark);
        if (may.isEmpty()) return 2000;
        if (kind[mark] == 0) return what == 0 ? Collections.min(may) : Collections.max(may);
        int must = -2000;
        TreeSet<Integer> mustNot = new TreeSet<>();
        for (int[] q : path(treeAt(tree), at, mark)) {
            if (q[1] == 1) must = q[0];
            else mustNot.add(q[0]);
        }
        if (what == 0) return must;
        return must == -2000 ? mustNot.size() : 0;
    }

    private int turnTo(List<Integer> may, int mark, int x) {
        if (may.contains(x)) return x;
        if (kind[mark] == 1) {
            if (may.size() == 1) return may.get(0);
            for (int y = 0; ; y++) if (may.contains(y)) return y;
        }
        int nearest = may.get(0);
        for (int y : may) if (Math.abs(y - x) < Math.abs(nearest - x)) nearest = y;
        return nearest;
    }

    int near(int tree, int a, int b, int c, int d) {
        Node of = treeAt(tree);
        int[] marks = unpack(a, b, c, d);
        if (of == null || marks == null) return -1;
        for (int m : marks) if (m == GAP) return -1;
        int verdict = lead(of, marks).cls();
        int[] best = null;
        int fewest = 0, least = 0;
        for (Node leaf : nodes(of)) {
            if (!leaf.leaf() || leaf.cls() == verdict) continue;
            int[] then = new int[8];
            int off = 0, moved = 0;
            boolean possible = true;
            for (int m = 0; m < 8 && possible; m++) {
                List<Integer> may = allowed(of, leaf, m);
                possible = !may.isEmpty();
                if (!possible) break;
                then[m] = turnTo(may, m, marks[m]);
                if (then[m] != marks[m]) off++;
                if (kind[m] == 0) moved += Math.abs(then[m] - marks[m]);
            }
            if (possible && (best == null || off < fewest || off == fewest && moved < least)) {
                best = then;
                fewest = off;
                least = moved;
            }
        }
        if (best == null) return 0;
        turned = best;
        return fewest;
    }

    int turned(int mark) {
        return mark < 0 || mark > 7 || turned == null ? -40000 : turned[mark];
    }

    int count(int what) {
        return what == 0 ? cases.size() : what == 1 ? trees.size() : -1;
    }
}
