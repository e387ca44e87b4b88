import java.util.ArrayList;
import java.util.List;
import java.util.function.Supplier;
import java.util.function.ToIntFunction;

/**
 * "A refused call changes nothing": in several states all refused calls of a method are made, and then every question
 * is asked of that object and of a twin that never heard them. An object answers for 512 calls only, so a few questions
 * are asked of each twin: some 330 calls to set it up, some 110 refused ones, and these.
 */
public final class RefusedTest extends Sentences {
    private static final int QUESTIONS = 60;

    private record Call(String name, int want, ToIntFunction<AskTree> made) { }

    private record State(String name, Supplier<AskTree> make) { }

    public static void main(String[] args) throws IllegalAccessException {
        run(RefusedTest.class);
    }

    // ---- the states

    private static final State[] STATES = {
        new State("a new object", AskTree::new),
        new State("sorts alone", RefusedTest::sorts),
        new State("cases alone, with gaps", RefusedTest::gappy),
        new State("trees alone", RefusedTest::treesAlone),
        new State("cases and trees, told of", RefusedTest::toldOf),
        new State("51 cases", () -> cases(sorts(), 51, true)),
        new State("20 trees", RefusedTest::twentyTrees),
        new State("300 cases and 20 trees", RefusedTest::full)
    };

    private static AskTree sorts() {
        AskTree x = new AskTree();
        x.sort(2, 1);
        x.sort(5, 1);
        return x;
    }

    private static AskTree cases(AskTree x, int count, boolean gaps) {
        for (int i = 0; i < count; i++) {
            int[] marks = new int[8];
            for (int m = 0; m < 8; m++) marks[m] = gaps && (i + m) % 7 == 3 ? GAP : i * (m + 3) % 11 - 4;
            add(x, i * i / 3 % 4, marks);
        }
        return x;
    }

    private static AskTree gappy() {
        return cases(sorts(), 20, true);
    }

    private static AskTree treesAlone() {
        AskTree x = cases(sorts(), 12, false);
        x.grow(3, 1);
        x.best(1);
        while (x.count(0) > 0) x.drop(0);
        return x;
    }

    private static AskTree toldOf() {
        AskTree x = cases(sorts(), 30, false);
        x.grow(4, 1);
        x.best(2);
        x.cut(0, 1, 1);
        say(x, 0, 1, 2, 3, 4, 5, 6);
        vote(x, 3, 2, 1);
        near(x, 1, 1, 1, 1, 1, 1, 1);
        return x;
    }

    private static AskTree twentyTrees() {
        AskTree x = cases(sorts(), 9, false);
        for (int t = 0; t < 20; t++) x.grow(t % 3, 1);
        say(x, 2, 1, 2, 3);
        vote(x, 1, 2, 3);
        return x;
    }

    private static AskTree full() {
        AskTree x = cases(sorts(), 300, true);
        x.grow(3, 1);
        for (int t = 1; t < 20; t++) x.grow(t % 2, 1 + t);
        say(x, 1, 1, 2, 3);
        vote(x, 1, 2, 3);
        near(x, 0, 4, 4, 4, 4, 4, 4, 4, 4);
        return x;
    }

    // ---- the refused calls

    private static final int[] ENDS = {LOW, HIGH, -65536, 1 << 29};

    /** One less than the least, one more than the greatest, and far outside. */
    private static int[] bad(int least, int greatest) {
        return new int[] {least - 1, greatest + 1, ENDS[0], ENDS[1], ENDS[2], ENDS[3]};
    }

    private static int[][] badMarks() {
        int[][] all = new int[8 * 4][];
        int[] bad = {-1001, 1001, -32767, 32767};
        for (int i = 0; i < all.length; i++) all[i] = allBut(2, i / 4, bad[i % 4]);
        return all;
    }

    private static void addCalls(List<Call> all, String name, int want, int least, int greatest, Refused made) {
        for (int bad : bad(least, greatest)) all.add(new Call(name + " of " + bad, want, x -> made.call(x, bad)));
    }

    private interface Refused {
        int call(AskTree x, int bad);
    }

    private static List<Call> sortCalls(int cases, int trees) {
        List<Call> all = new ArrayList<>();
        addCalls(all, "sort(.., 0)", NONE, 0, 7, (x, m) -> x.sort(m, 0));
        addCalls(all, "sort(.., 1)", NONE, 0, 7, (x, m) -> x.sort(m, 1));
        addCalls(all, "sort(2, ..)", NONE, 0, 1, (x, how) -> x.sort(2, how));
        for (int m = 0; m < 8 && cases + trees > 0; m++) {
            int mark = m;
            all.add(new Call("sort(" + m + ", 0)", NONE, x -> x.sort(mark, 0)));
            all.add(new Call("sort(" + m + ", 1)", NONE, x -> x.sort(mark, 1)));
        }
        return all;
    }

    private static List<Call> addCalls(int cases) {
        List<Call> all = new ArrayList<>();
        addCalls(all, "add of the class", NONE, 0, 3, (x, c) -> x.add(c, 0, 0, 0, 0));
        for (int[] marks : badMarks()) all.add(new Call("add of bad marks", NONE, x -> add(x, 1, marks)));
        if (cases == 300) all.add(new Call("add to 300", FULL, x -> add(x, 3, 1, 2, 3, GAP)));
        return all;
    }

    private static List<Call> caseCalls(int cases) {
        List<Call> all = new ArrayList<>();
        addCalls(all, "drop", NONE, 0, cases - 1, (x, i) -> x.drop(i));
        addCalls(all, "cls", NONE, 0, cases - 1, (x, i) -> x.cls(i));
        addCalls(all, "mark(.., 0)", NO_SUCH, 0, cases - 1, (x, i) -> x.mark(i, 0));
        addCalls(all, "mark(0, ..)", NO_SUCH, 0, 7, (x, m) -> x.mark(0, m));
        addCalls(all, "count", NONE, 0, 1, (x, what) -> x.count(what));
        return all;
    }

    private static List<Call> growCalls(int trees) {
        List<Call> all = new ArrayList<>();
        addCalls(all, "grow(.., 1)", NONE, 0, 8, (x, d) -> x.grow(d, 1));
        addCalls(all, "grow(1, ..)", NONE, 1, 100, (x, l) -> x.grow(1, l));
        addCalls(all, "folds(.., 1, 1)", NONE, 2, 10, (x, k) -> x.folds(k, 1, 1));
        addCalls(all, "folds(2, .., 1)", NONE, 0, 8, (x, d) -> x.folds(2, d, 1));
        addCalls(all, "folds(2, 1, ..)", NONE, 1, 100, (x, l) -> x.folds(2, 1, l));
        if (trees == 20) all.add(new Call("grow of the 21st", FULL, x -> x.grow(2, 1)));
        return all;
    }

    private static List<Call> bestCalls(AskTree like) {
        List<Call> all = new ArrayList<>();
        addCalls(all, "best", NONE, 0, 2, (x, d) -> x.best(d));
        int cases = like.count(0);
        boolean gaps = false;
        for (int i = 0; i < cases && cases <= 50; i++) for (int m = 0; m < 8; m++) gaps |= like.mark(i, m) == GAP;
        int want = cases > 50 ? MANY : gaps ? GAPS : like.count(1) == 20 ? FULL : 0;
        for (int d = 0; d <= 2 && want < 0; d++) {
            int depth = d;
            all.add(new Call("best(" + d + ")", want, x -> x.best(depth)));
        }
        return all;
    }

    private static List<Call> cutCalls(int trees) {
        List<Call> all = new ArrayList<>();
        addCalls(all, "cut(.., 1, 1)", NONE, 0, trees - 1, (x, t) -> x.cut(t, 1, 1));
        addCalls(all, "cut(0, .., 1)", NONE, 0, 10000, (x, p) -> x.cut(0, p, 1));
        addCalls(all, "cut(0, 1, ..)", NONE, 1, 10000, (x, q) -> x.cut(0, 1, q));
        addCalls(all, "price(.., 0)", NONE, 0, trees - 1, (x, t) -> x.price(t, 0));
        addCalls(all, "price(0, ..)", NONE, 0, 1, (x, what) -> x.price(0, what));
        if (trees == 20) all.add(new Call("cut of the 21st", FULL, x -> x.cut(0, 1, 1)));
        if (trees == 0) all.add(new Call("remove", NONE, x -> x.remove()));
        return all;
    }

    private static List<Call> treeCalls(int trees, int nodes) {
        List<Call> all = new ArrayList<>();
        addCalls(all, "tree(.., 0)", NONE, 0, trees - 1, (x, t) -> x.tree(t, 0));
        addCalls(all, "tree(0, ..)", NONE, 0, 5, (x, what) -> x.tree(0, what));
        addCalls(all, "node(.., 0, 0)", NONE, 0, trees - 1, (x, t) -> x.node(t, 0, 0));
        addCalls(all, "node(0, .., 5)", NONE, 0, nodes - 1, (x, k) -> x.node(0, k, 5));
        addCalls(all, "node(0, 0, ..)", NONE, 0, 8, (x, what) -> x.node(0, 0, what));
        addCalls(all, "share(.., 0, 0)", NONE, 0, trees - 1, (x, t) -> x.share(t, 0, 0));
        addCalls(all, "share(0, .., 0)", NONE, 0, nodes - 1, (x, k) -> x.share(0, k, 0));
        addCalls(all, "share(0, 0, ..)", NONE, 0, 3, (x, c) -> x.share(0, 0, c));
        return all;
    }

    private static List<Call> sayCalls(int trees) {
        List<Call> all = new ArrayList<>();
        addCalls(all, "say", NONE, 0, trees - 1, (x, t) -> say(x, t, 9, 9, 9));
        for (int[] marks : badMarks()) {
            all.add(new Call("say of bad marks", NONE, x -> say(x, 0, marks)));
            all.add(new Call("vote of bad marks", NONE, x -> vote(x, marks)));
        }
        if (trees == 0) all.add(new Call("vote", NONE, x -> vote(x, 9, 9, 9)));
        return all;
    }

    private static List<Call> nearCalls(int trees) {
        List<Call> all = new ArrayList<>();
        addCalls(all, "near", NONE, 0, trees - 1, (x, t) -> near(x, t, 9, 9, 9));
        for (int[] marks : badMarks()) all.add(new Call("near of bad marks", NONE, x -> near(x, 0, marks)));
        for (int m = 0; m < 8; m++) {
            int mark = m;
            all.add(new Call("near of a GAP", NONE, x -> near(x, 0, allBut(9, mark, GAP))));
        }
        addCalls(all, "turned", NO_SUCH, 0, 7, (x, m) -> x.turned(m));
        return all;
    }

    private static List<Call> ruleCalls(int trees, int nodes) {
        List<Call> all = new ArrayList<>();
        int leaf = nodes - 1;
        addCalls(all, "rule(.., 0, 0, 0)", NO_SUCH, 0, trees - 1, (x, t) -> x.rule(t, 0, 0, 0));
        addCalls(all, "rule(0, .., 0, 0)", NO_SUCH, 0, nodes - 1, (x, k) -> x.rule(0, k, 0, 0));
        addCalls(all, "rule(0, leaf, .., 0)", NO_SUCH, 0, 7, (x, m) -> x.rule(0, leaf, m, 0));
        addCalls(all, "rule(0, leaf, 0, ..)", NO_SUCH, 0, 1, (x, what) -> x.rule(0, leaf, 0, what));
        if (nodes > 1) all.add(new Call("rule of a question", NO_SUCH, x -> x.rule(0, 0, 0, 0)));
        return all;
    }

    // ---- the questions

    private static void ask(List<Call> all, String name, ToIntFunction<AskTree> made) {
        all.add(new Call(name, 0, made));
    }

    private static List<Call> questions(AskTree like) {
        List<Call> all = new ArrayList<>();
        int cases = like.count(0), trees = like.count(1);
        for (int w = 0; w < 2; w++) {
            int what = w;
            ask(all, "count(" + w + ")", x -> x.count(what));
        }
        ask(all, "said()", x -> x.said());
        ask(all, "voices()", x -> x.voices());
        for (int m = 0; m < 8; m++) {
            int mark = m;
            ask(all, "turned(" + m + ")", x -> x.turned(mark));
        }
        for (int c = 0; c < cases; c++) {
            int i = c;
            ask(all, "cls(" + i + ")", x -> x.cls(i));
            for (int m = 0; m < 8; m++) {
                int mark = m;
                ask(all, "mark(" + i + ", " + m + ")", x -> x.mark(i, mark));
            }
        }
        for (int t = 0; t < trees; t++) treeQuestions(all, t, like.tree(t, 0));
        // from here on the answers to come may change: these stand last
        ask(all, "folds(3, 4, 1)", x -> x.folds(3, 4, 1));
        for (int m = 0; m < 8; m++) {
            int mark = m;
            ask(all, "sort(" + m + ", 0)", x -> x.sort(mark, 0));
        }
        return all;
    }

    private static void treeQuestions(List<Call> all, int t, int nodes) {
        for (int w = 0; w < 6; w++) {
            int what = w;
            ask(all, "tree(" + t + ", " + w + ")", x -> x.tree(t, what));
        }
        ask(all, "price(" + t + ", 0)", x -> x.price(t, 0));
        ask(all, "price(" + t + ", 1)", x -> x.price(t, 1));
        for (int n = 0; n < nodes; n++) {
            int k = n;
            for (int w = 0; w < 9; w++) {
                int what = w;
                ask(all, "node(" + t + ", " + k + ", " + w + ")", x -> x.node(t, k, what));
            }
            for (int c = 0; c < 4; c++) {
                int cls = c;
                ask(all, "share(" + t + ", " + k + ", " + c + ")", x -> x.share(t, k, cls));
            }
            for (int m = 0; m < 8; m++) {
                int mark = m;
                ask(all, "rule(" + t + ", " + k + ", " + m + ", 0)", x -> x.rule(t, k, mark, 0));
            }
        }
    }

    /** What the next calls make of it: a case, a tree, and what they tell. */
    private static List<Call> goingOn() {
        List<Call> all = new ArrayList<>();
        ask(all, "say", x -> say(x, 0, 3, 1, 4, 1, 5));
        ask(all, "said()", x -> x.said());
        ask(all, "vote", x -> vote(x, 3, 1, 4, 1, 5));
        ask(all, "voices()", x -> x.voices());
        ask(all, "near", x -> near(x, 0, 3, 1, 4, 1, 5));
        ask(all, "turned(2)", x -> x.turned(2));
        ask(all, "remove()", x -> x.remove());
        ask(all, "grow(3, 1)", x -> x.grow(3, 1));
        ask(all, "nodes of the last", x -> x.tree(x.count(1) - 1, 0));
        ask(all, "WRONG of the last", x -> x.tree(x.count(1) - 1, 3));
        ask(all, "add", x -> add(x, 1, 2, 3, 4));
        ask(all, "drop(0)", x -> x.drop(0));
        ask(all, "mark(0, 2)", x -> x.mark(0, 2));
        ask(all, "grow(3, 1)", x -> x.grow(3, 1));
        ask(all, "best(1)", x -> x.best(1));
        ask(all, "cut(0, 1, 2)", x -> x.cut(0, 1, 2));
        ask(all, "count(1)", x -> x.count(1));
        ask(all, "folds(2, 2, 1)", x -> x.folds(2, 2, 1));
        return all;
    }

    // ---- the tests

    static void theStatesAreAsMeant() {
        says("the states of this test");
        int[][] counts = {{0, 0}, {0, 0}, {20, 0}, {0, 2}, {30, 3}, {51, 0}, {9, 20}, {300, 20}};
        for (int s = 0; s < STATES.length; s++) {
            AskTree x = STATES[s].make.get();
            due(STATES[s].name + ": cases", x.count(0), counts[s][0]);
            due(STATES[s].name + ": trees", x.count(1), counts[s][1]);
        }
        due("cases alone have gaps", gappy().best(0), GAPS);
        for (AskTree x : new AskTree[] {toldOf(), full()}) {
            due("said() tells of a say()", x.said() > 0 ? 1 : 0, 1);
            due("voices() tells of a vote()", x.voices() > 0 ? 1 : 0, 1);
            due("turned() tells of a near()", x.turned(0) == NO_SUCH ? 1 : 0, 0);
        }
    }

    private static void changesNothing(Supplier<AskTree> make, List<Call> refused, List<Call> questions) {
        for (int from = 0; from < questions.size(); from += QUESTIONS) {
            AskTree x = make.get();
            AskTree twin = make.get();
            for (Call c : refused) due(c.name, c.made.applyAsInt(x), c.want);
            for (Call q : questions.subList(from, Math.min(from + QUESTIONS, questions.size()))) {
                due(q.name + " after " + refused.get(0).name + " ..", q.made.applyAsInt(x), q.made.applyAsInt(twin));
            }
        }
    }

    static void refusedCallsChangeNothing() {
        for (State s : STATES) {
            says("A refused call changes nothing. (" + s.name + ")");
            AskTree like = s.make.get();
            int cases = like.count(0), trees = like.count(1), nodes = Math.max(0, like.tree(0, 0));
            List<List<Call>> methods = List.of(
                sortCalls(cases, trees), addCalls(cases), caseCalls(cases), growCalls(trees), bestCalls(like), cutCalls(trees),
                treeCalls(trees, nodes), sayCalls(trees), nearCalls(trees), ruleCalls(trees, nodes));
            for (List<Call> refused : methods) {
                changesNothing(s.make, refused, questions(s.make.get()));
                changesNothing(s.make, refused, goingOn());
            }
        }
    }
}
