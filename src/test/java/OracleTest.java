import java.util.ArrayList;
import java.util.List;
import java.util.Random;

/** Runs of chosen calls on AskTree and on the naive oracle side by side: every answer must be the same. */
public final class OracleTest {
    private static int wrong = 0;
    private static long compared = 0;

    private final AskTree tree = new AskTree();
    private final Oracle oracle = new Oracle();
    private final Random random;
    private final List<String> calls = new ArrayList<>();
    private final String name;
    private int marksUsed, range, gapPercent, classes, mostCases;

    private OracleTest(String kind, long seed) {
        random = new Random(seed);
        name = kind + " " + seed;
    }

    private void same(String call, int got, int want) {
        compared++;
        calls.add(call);
        if (got == want) return;
        wrong++;
        if (wrong <= 5) {
            System.out.println("run " + name + ": " + call + " answered " + got + ", the oracle " + want);
            for (String c : calls) System.out.println("    " + c);
        }
    }

    private int oneMark(boolean gaps) {
        if (gaps && random.nextInt(100) < gapPercent) return Oracle.GAP;
        return random.nextInt(2 * range + 1) - range;
    }

    private int[] someMarks(boolean gaps) {
        int[] m = new int[8];
        for (int i = 0; i < 8; i++) m[i] = i < marksUsed ? oneMark(gaps) : 0;
        int[] packed = new int[4];
        for (int i = 0; i < 4; i++) packed[i] = m[2 * i] << 16 | m[2 * i + 1] & 0xffff;
        if (random.nextInt(60) == 0) packed[random.nextInt(4)] = random.nextInt();
        return packed;
    }

    private static String told(int[] m) {
        return m[0] + ", " + m[1] + ", " + m[2] + ", " + m[3] + ")";
    }

    private int around(int count) {
        return random.nextInt(count + 3) - 1;
    }

    private void add() {
        int[] m = someMarks(true);
        // classes that lean on the marks, so that trees have something to learn
        int cls = random.nextInt(40) == 0 ? random.nextInt(7) - 2
            : random.nextInt(3) == 0 ? random.nextInt(classes)
            : Math.floorMod((m[0] >> 16) * 2 / (range + 1) + (m[1] & 3), classes);
        same("add(" + cls + ", " + told(m), tree.add(cls, m[0], m[1], m[2], m[3]), oracle.add(cls, m[0], m[1], m[2], m[3]));
    }

    private void cutOrPrice() {
        int t = around(oracle.trees.size());
        boolean written = t < 0 || t >= oracle.trees.size() || Oracle.cutWork(oracle.trees.get(t)) < 3000;
        if (!written) return;
        for (int what = -1; what <= 2; what++) {
            same("price(" + t + ", " + what + ")", tree.price(t, what), oracle.price(t, what));
        }
        int up = oracle.price(t, 0);
        int low = oracle.price(t, 1);
        boolean atPrice = up >= 0 && random.nextBoolean();
        int p = atPrice ? up : random.nextInt(12) == 0 ? random.nextInt(10003) - 1 : random.nextInt(8);
        int q = atPrice ? low : random.nextInt(12) == 0 ? random.nextInt(10003) - 1 : 1 + random.nextInt(5);
        same("cut(" + t + ", " + p + ", " + q + ")", tree.cut(t, p, q), oracle.cut(t, p, q));
    }

    private void askTree() {
        int t = around(oracle.trees.size());
        for (int what = -1; what <= 6; what++) same("tree(" + t + ", " + what + ")", tree.tree(t, what), oracle.tree(t, what));
        int size = Math.max(0, oracle.tree(t, 0));
        int k = around(size);
        for (int what = -1; what <= 9; what++) {
            same("node(" + t + ", " + k + ", " + what + ")", tree.node(t, k, what), oracle.node(t, k, what));
        }
        for (int c = -1; c <= 4; c++) same("share(" + t + ", " + k + ", " + c + ")", tree.share(t, k, c), oracle.share(t, k, c));
        int m = around(8);
        for (int what = -1; what <= 2; what++) {
            same("rule(" + t + ", " + k + ", " + m + ", " + what + ")", tree.rule(t, k, m, what), oracle.rule(t, k, m, what));
        }
    }

    private void tell() {
        int t = around(oracle.trees.size());
        int[] m = someMarks(true);
        same("say(" + t + ", " + told(m), tree.say(t, m[0], m[1], m[2], m[3]), oracle.say(t, m[0], m[1], m[2], m[3]));
        same("said()", tree.said(), oracle.said());
        same("vote(" + told(m), tree.vote(m[0], m[1], m[2], m[3]), oracle.vote(m[0], m[1], m[2], m[3]));
        same("voices()", tree.voices(), oracle.voices());
    }

    private void near() {
        int t = around(oracle.trees.size());
        int[] m = someMarks(random.nextInt(8) == 0);
        same("near(" + t + ", " + told(m), tree.near(t, m[0], m[1], m[2], m[3]), oracle.near(t, m[0], m[1], m[2], m[3]));
        for (int k = -1; k <= 8; k++) same("turned(" + k + ")", tree.turned(k), oracle.turned(k));
    }

    private void best() {
        int depth = random.nextInt(5) - 1;
        boolean written = oracle.bestWork() < 400000 || depth < 2;
        if (written) same("best(" + depth + ")", tree.best(depth), oracle.best(depth));
    }

    private void grow() {
        int depth = random.nextInt(12) == 0 ? random.nextInt(12) - 2 : random.nextInt(9);
        int least = random.nextInt(12) == 0 ? random.nextInt(104) - 1 : 1 + random.nextInt(3);
        same("grow(" + depth + ", " + least + ")", tree.grow(depth, least), oracle.grow(depth, least));
    }

    private void folds() {
        int k = random.nextInt(12) + 1;
        int depth = random.nextInt(10) - (random.nextInt(8) == 0 ? 1 : 0);
        int least = random.nextInt(5);
        same("folds(" + k + ", " + depth + ", " + least + ")", tree.folds(k, depth, least), oracle.folds(k, depth, least));
    }

    private void sorts() {
        int m = around(8);
        int how = random.nextInt(6) == 0 ? random.nextInt(5) - 2 : random.nextInt(2);
        same("sort(" + m + ", " + how + ")", tree.sort(m, how), oracle.sort(m, how));
    }

    private void lookBack() {
        int i = around(oracle.cases.size());
        int m = around(8);
        same("mark(" + i + ", " + m + ")", tree.mark(i, m), oracle.mark(i, m));
        same("cls(" + i + ")", tree.cls(i), oracle.cls(i));
        for (int what = -1; what <= 2; what++) same("count(" + what + ")", tree.count(what), oracle.count(what));
        same("said()", tree.said(), oracle.said());
        same("voices()", tree.voices(), oracle.voices());
    }

    private void drop() {
        int i = around(oracle.cases.size());
        same("drop(" + i + ")", tree.drop(i), oracle.drop(i));
    }

    private void anyCall() {
        switch (random.nextInt(16)) {
            case 0: case 1: case 2: if (oracle.cases.size() < mostCases || random.nextInt(9) == 0) add(); break;
            case 3: if (oracle.cases.size() > mostCases / 2 || random.nextInt(6) == 0) drop(); break;
            case 4: case 5: grow(); break;
            case 6: best(); break;
            case 7: case 8: cutOrPrice(); break;
            case 9: folds(); break;
            case 10: if (oracle.trees.size() > 4) same("remove()", tree.remove(), oracle.remove()); break;
            case 11: askTree(); break;
            case 12: tell(); break;
            case 13: near(); break;
            case 14: lookBack(); break;
            default: sorts(); break;
        }
    }

    private void whole() {
        for (int i = 0; i < oracle.cases.size(); i++) {
            same("cls(" + i + ")", tree.cls(i), oracle.cls(i));
            for (int m = 0; m < 8; m++) same("mark(" + i + ", " + m + ")", tree.mark(i, m), oracle.mark(i, m));
        }
        for (int t = 0; t < oracle.trees.size(); t++) {
            int size = oracle.tree(t, 0);
            for (int what = 0; what < 6; what++) same("tree(" + t + ", " + what + ")", tree.tree(t, what), oracle.tree(t, what));
            for (int k = 0; k < size; k++) {
                for (int what = 0; what < 9; what++) {
                    same("node(" + t + ", " + k + ", " + what + ")", tree.node(t, k, what), oracle.node(t, k, what));
                }
                for (int c = 0; c < 4; c++) same("share(" + t + ", " + k + ", " + c + ")", tree.share(t, k, c), oracle.share(t, k, c));
            }
        }
    }

    private void setUp(int marks, int range, int gapPercent, int classes, int mostCases) {
        this.marksUsed = marks;
        this.range = range;
        this.gapPercent = gapPercent;
        this.classes = classes;
        this.mostCases = mostCases;
        for (int i = random.nextInt(10); i > 0; i--) sorts();
    }

    private static void smallRun(long seed) {
        OracleTest run = new OracleTest("small", seed);
        Random r = run.random;
        int[] ranges = {1, 2, 3, 5, 20, 1000};
        int gaps = r.nextInt(3) == 0 ? 25 : 0;
        run.setUp(1 + r.nextInt(8), ranges[r.nextInt(ranges.length)], gaps, 1 + r.nextInt(4), 3 + r.nextInt(20));
        for (int i = r.nextInt(run.mostCases); i > 0; i--) run.add();
        for (int i = 0; i < 120; i++) run.anyCall();
        run.whole();
    }

    private static void bigRun(long seed) {
        OracleTest run = new OracleTest("big", seed);
        Random r = run.random;
        int[] ranges = {2, 6, 30, 1000};
        run.setUp(1 + r.nextInt(8), ranges[r.nextInt(ranges.length)], r.nextInt(30), 2 + r.nextInt(3), 300);
        for (int i = 0; i < 315; i++) run.add();
        for (int i = 0; i < 3; i++) run.drop();
        run.same("grow(8, 1)", run.tree.grow(8, 1), run.oracle.grow(8, 1));
        run.grow();
        run.best();
        for (int i = 0; i < 4; i++) run.tell();
        for (int i = 0; i < 2; i++) run.near();
        for (int i = 0; i < 20; i++) run.askTree();
        run.folds();
        run.whole();
    }

    /** Fifty cases with eight marks of many values: one question, whose trees the oracle can still write out. */
    private static void fiftyRun(long seed) {
        OracleTest run = new OracleTest("fifty", seed);
        Random r = run.random;
        run.setUp(1 + r.nextInt(4), 1 + r.nextInt(4), 0, 2 + r.nextInt(3), 50);
        for (int i = 0; i < 50 + r.nextInt(2); i++) run.add();
        for (int depth = -1; depth <= 3; depth++) {
            if (run.oracle.bestWork() < 60000 || depth != 2) {
                run.same("best(" + depth + ")", run.tree.best(depth), run.oracle.best(depth));
            }
        }
        run.cutOrPrice();
        run.whole();
    }

    public static void main(String[] args) {
        int runs = args.length > 0 ? Integer.parseInt(args[0]) : 600;
        long from = args.length > 1 ? Long.parseLong(args[1]) : 1;
        for (long seed = from; seed < from + runs; seed++) smallRun(seed);
        for (long seed = from; seed < from + Math.max(4, runs / 20); seed++) bigRun(seed);
        for (long seed = from; seed < from + Math.max(4, runs / 10); seed++) fiftyRun(seed);
        System.out.println(compared + " answers compared, " + wrong + " differ");
        if (wrong != 0) System.exit(1);
    }
}
