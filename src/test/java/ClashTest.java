import java.lang.reflect.Constructor;
import java.lang.reflect.Field;
import java.lang.reflect.Method;

/**
 * Leaves whose rules no number can follow, and nodes that are not there. No calls lead to such trees, as each question
 * has cases without a GAP on both sides: so that the sentences on them are tested all the same, a tree is put inside the
 * object by hand.
 */
public final class ClashTest extends Sentences {
    public static void main(String[] args) throws IllegalAccessException {
        run(ClashTest.class);
    }

    private static Object field(Object of, String name) throws ReflectiveOperationException {
        Field f = of.getClass().getDeclaredField(name);
        f.setAccessible(true);
        return f.get(of);
    }

    private static Object call(Object of, String name, Object... told) throws ReflectiveOperationException {
        for (Method m : of.getClass().getDeclaredMethods()) {
            if (m.getName().equals(name)) {
                m.setAccessible(true);
                return m.invoke(of, told);
            }
        }
        throw new NoSuchMethodException(name);
    }

    /** Nodes in their order: {mark, v, the node below NO}, or {class} of a leaf. The object has one tree, and it is this. */
    private static AskTree with(AskTree x, int[]... nodes) throws ReflectiveOperationException {
        x.grow(0, 1);
        Object tree = ((Object[]) field(x, "trees"))[0];
        Field size = tree.getClass().getDeclaredField("size");
        size.setAccessible(true);
        size.setInt(tree, 0);
        for (int k = 0; k < nodes.length; k++) {
            int[] shares = new int[4];
            shares[nodes[k].length == 1 ? nodes[k][0] : 0] = 1;
            call(tree, "open", 0, shares, 0);
            if (nodes[k].length > 1) {
                call(tree, "ask", k, nodes[k][0], nodes[k][1], 1);
                ((int[]) field(tree, "below"))[k] = nodes[k][2];
            }
        }
        return x;
    }

    private static AskTree sorts() {
        AskTree x = new AskTree();
        x.sort(0, 1);
        return x;
    }

    private static void ruleIs(AskTree x, int leaf, int mark, int first, int second) {
        due("rule(0, " + leaf + ", " + mark + ", 0)", x.rule(0, leaf, mark, 0), first);
        due("rule(0, " + leaf + ", " + mark + ", 1)", x.rule(0, leaf, mark, 1), second);
    }

    /** Less than 5 and not less than 9 is leaf 3. */
    private static AskTree lessAndNotLess(int last) throws ReflectiveOperationException {
        return with(new AskTree(), new int[] {0, 5, 4}, new int[] {0, 9, 3}, new int[] {0}, new int[] {1}, new int[] {last});
    }

    static void noNumberMayBeThere() throws ReflectiveOperationException {
        says("if no number may be there, 2000 (0) and 2000 (1)");
        AskTree x = lessAndNotLess(2);
        ruleIs(x, 2, 0, -1000, 4);
        ruleIs(x, 3, 0, 2000, 2000);
        ruleIs(x, 3, 1, -1000, 1000);
        ruleIs(x, 4, 0, 5, 1000);
        // less than the least
        AskTree least = with(new AskTree(), new int[] {6, -1000, 2}, new int[] {0}, new int[] {1});
        ruleIs(least, 1, 6, 2000, 2000);
        ruleIs(least, 2, 6, -1000, 1000);
        // less than 5 and not less than 5, against less than 6 and not less than 5
        AskTree none = with(new AskTree(), new int[] {0, 5, 4}, new int[] {0, 5, 3}, new int[] {0}, new int[] {1}, new int[] {2});
        ruleIs(none, 3, 0, 2000, 2000);
        AskTree one = with(new AskTree(), new int[] {0, 6, 4}, new int[] {0, 5, 3}, new int[] {0}, new int[] {1}, new int[] {2});
        ruleIs(one, 3, 0, 5, 5);
    }

    static void noSortMayBeThere() throws ReflectiveOperationException {
        says("if no number may be there, 2000 (0) and 2000 (1)");
        AskTree same = with(sorts(), new int[] {0, 3, 4}, new int[] {0, 3, 3}, new int[] {0}, new int[] {1}, new int[] {2});
        ruleIs(same, 2, 0, 3, 0);
        ruleIs(same, 3, 0, 2000, 2000);
        ruleIs(same, 4, 0, -2000, 1);
        AskTree two = with(sorts(), new int[] {0, 3, 4}, new int[] {0, 4, 3}, new int[] {0}, new int[] {1}, new int[] {2});
        ruleIs(two, 2, 0, 2000, 2000);
        ruleIs(two, 3, 0, 3, 0);
        AskTree not = with(sorts(), new int[] {0, 3, 2}, new int[] {0}, new int[] {0, 3, 4}, new int[] {1}, new int[] {2});
        ruleIs(not, 3, 0, 2000, 2000);
        // the same number twice is one that it must not be
        ruleIs(not, 4, 0, -2000, 1);
    }

    static void rulesThatAMarkCannotFollow() throws ReflectiveOperationException {
        says("and whose rules each MARK can follow");
        AskTree x = lessAndNotLess(2);
        due("near", near(x, 0, 0), 1);
        due("turned(0)", x.turned(0), 5);
        AskTree none = lessAndNotLess(0);
        due("near, with no leaf left", near(none, 0, 0), 0);
        due("turned(0)", none.turned(0), NO_SUCH);
        AskTree sort = with(sorts(), new int[] {0, 3, 4}, new int[] {0, 3, 3}, new int[] {0}, new int[] {1}, new int[] {2});
        due("near", near(sort, 0, 3), 1);
        due("turned(0)", sort.turned(0), 0);
        AskTree two = with(sorts(), new int[] {0, 3, 4}, new int[] {0, 4, 3}, new int[] {1}, new int[] {0}, new int[] {0});
        due("near, with no leaf left", near(two, 0, 3), 0);
    }

    /** Every call that walks through tree 0: what matters is that it ends and does not throw. */
    private static void walk(AskTree x) {
        int trees = x.count(1);
        for (int what = 0; what < 6; what++) x.tree(0, what);
        for (int node = 0; node < 4; node++) {
            for (int what = 0; what < 9; what++) x.node(0, node, what);
            for (int mark = 0; mark < 8; mark++) x.rule(0, node, mark, 0);
        }
        for (int mark = -1; mark < 2; mark++) {
            say(x, 0, mark);
            vote(x, mark);
            near(x, 0, mark);
        }
        say(x, 0, GAP);
        x.price(0, 0);
        x.price(0, 1);
        due("cut(0, 1, 1)", x.cut(0, 1, 1), trees);
        due("cut(0, 0, 1)", x.cut(0, 0, 1), trees + 1);
        due("count(1)", x.count(1), trees + 2);
    }

    static void anIndexIsLookedAt() throws ReflectiveOperationException {
        says("an index is looked at before it is used");
        for (int below : new int[] {-1, LOW, 3, 511, HIGH}) {
            walk(with(of(new int[] {1, 0}), new int[] {0, 0, below}, new int[] {0}, new int[] {1}));
        }
        for (int mark : new int[] {-2, LOW, 8, HIGH}) {
            walk(with(of(new int[] {1, 0}), new int[] {mark, 0, 2}, new int[] {0}, new int[] {1}));
        }
        // a question as the only node
        walk(with(of(new int[] {1, 0}), new int[] {0, 0, 1}));
    }
}
