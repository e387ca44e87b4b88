import java.lang.reflect.InvocationTargetException;
import java.lang.reflect.Method;
import java.util.ArrayList;
import java.util.Comparator;
import java.util.List;
import java.util.function.IntUnaryOperator;

/** What the tests of single sentences share. Each of their methods without a parameter is one test. */
abstract class Sentences {
    // written out, not taken from the class: a wrong constant must be seen
    static final int NONE = -1, MANY = -2, GAPS = -3, FULL = -4, NO_SUCH = -40000, GAP = -32768;
    static final int LOW = Integer.MIN_VALUE, HIGH = Integer.MAX_VALUE;
    /** Far outside of every bound; some of them come back to 0 when an int multiplies them by 4 or 8. */
    static final int[] FAR = {
        LOW, LOW + 1, -(1 << 30), -(1 << 29), -65536, -10001, 65536, 1 << 28, 1 << 29, 1 << 30, HIGH - 1, HIGH
    };
    private static String sentence = "";
    private static int answers = 0, wrong = 0;

    static void says(String words) {
        sentence = words;
    }

    static void due(String call, int got, int want) {
        answers++;
        if (got != want) {
            wrong++;
            System.out.println("\"" + sentence + "\": " + call + " answered " + got + ", due is " + want);
        }
    }

    static int pair(int first, int next) {
        return first << 16 | next & 0xffff;
    }

    /** The eight marks as four numbers; those that are not given are 0. */
    static int[] told(int... marks) {
        int[] all = new int[8];
        System.arraycopy(marks, 0, all, 0, marks.length);
        return new int[] {pair(all[0], all[1]), pair(all[2], all[3]), pair(all[4], all[5]), pair(all[6], all[7])};
    }

    /** Marks that are all the same, but for one. */
    static int[] allBut(int same, int mark, int other) {
        int[] marks = {same, same, same, same, same, same, same, same};
        marks[mark] = other;
        return marks;
    }

    static int add(AskTree x, int cls, int... marks) {
        int[] t = told(marks);
        return x.add(cls, t[0], t[1], t[2], t[3]);
    }

    static int say(AskTree x, int tree, int... marks) {
        int[] t = told(marks);
        return x.say(tree, t[0], t[1], t[2], t[3]);
    }

    static int vote(AskTree x, int... marks) {
        int[] t = told(marks);
        return x.vote(t[0], t[1], t[2], t[3]);
    }

    static int near(AskTree x, int tree, int... marks) {
        int[] t = told(marks);
        return x.near(tree, t[0], t[1], t[2], t[3]);
    }

    /** Told as {class, mark 0, mark 1, ..}. */
    static AskTree of(int[]... cases) {
        return into(new AskTree(), cases);
    }

    /** With mark 0 a SORT. */
    static AskTree sortOf(int[]... cases) {
        AskTree x = new AskTree();
        x.sort(0, 1);
        return into(x, cases);
    }

    static AskTree into(AskTree x, int[]... cases) {
        for (int[] c : cases) {
            int[] marks = new int[c.length - 1];
            System.arraycopy(c, 1, marks, 0, marks.length);
            add(x, c[0], marks);
        }
        return x;
    }

    static void addMany(AskTree x, int times, int cls, int... marks) {
        for (int i = 0; i < times; i++) add(x, cls, marks);
    }

    static void fillTrees(AskTree x) {
        for (int t = 0; t < 20 && x.grow(0, 1) >= 0; t++) { }
    }

    /** The answers node() gives for what 0, 1, 2 .. */
    static void nodeIs(AskTree x, int tree, int node, int... want) {
        for (int what = 0; what < want.length; what++) {
            due("node(" + tree + ", " + node + ", " + what + ")", x.node(tree, node, what), want[what]);
        }
    }

    static void leafIs(AskTree x, int tree, int node, int cls, int cases, int missed, int above) {
        nodeIs(x, tree, node, -1, 0, -1, -1, cls, cases, missed, above, 0);
    }

    static void sharesAre(AskTree x, int tree, int node, int... want) {
        for (int c = 0; c < 4; c++) due("share(" + tree + ", " + node + ", " + c + ")", x.share(tree, node, c), want[c]);
    }

    /** One less than the least, one more than the greatest, and numbers far outside. */
    static int[] outside(int least, int greatest) {
        int[] all = new int[FAR.length + 2];
        all[0] = least - 1;
        all[1] = greatest + 1;
        System.arraycopy(FAR, 0, all, 2, FAR.length);
        return all;
    }

    static void refused(String call, int want, int least, int greatest, IntUnaryOperator answer) {
        for (int x : outside(least, greatest)) due(call + " of " + x, answer.applyAsInt(x), want);
    }

    /** Marks next to what is allowed, and far from it, that two bytes can tell. */
    static final int[] BAD_MARKS = {-1001, 1001, -2000, 2000, -32767, 32767, -16384, 16384};

    static void run(Class<?> tests) throws IllegalAccessException {
        List<Method> all = new ArrayList<>();
        for (Method m : tests.getDeclaredMethods()) {
            if (m.getParameterCount() == 0 && !m.isSynthetic() && m.getReturnType() == void.class) all.add(m);
        }
        all.sort(Comparator.comparing(Method::getName));
        for (Method m : all) {
            sentence = m.getName();
            m.setAccessible(true);
            try {
                m.invoke(null);
            } catch (InvocationTargetException e) {
                wrong++;
                System.out.println(m.getName() + " threw " + e.getCause());
            }
        }
        System.out.println(all.size() + " tests of sentences, " + answers + " answers, " + wrong + " not as due");
        if (wrong != 0) System.exit(1);
    }
}
