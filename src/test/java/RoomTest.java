import java.lang.management.ManagementFactory;

/** What 512 calls make must stay far below the room that all calls of one run share. */
public final class RoomTest {
    private static final long ELEMENTS = 7_300_000L;
    private static int wrong = 0;

    private static long made() {
        var bean = (com.sun.management.ThreadMXBean) ManagementFactory.getThreadMXBean();
        return bean.getThreadAllocatedBytes(Thread.currentThread().getId());
    }

    /** Every element is an int of four bytes, so bytes over four are never less than the elements. */
    private static void check(String what, long before, long most) {
        long elements = (made() - before) / 4;
        System.out.println(what + ": at most " + elements + " elements");
        if (elements > most) {
            wrong++;
            System.out.println("too many, allowed are " + most);
        }
    }

    private static AskTree full(int cases) {
        AskTree x = new AskTree();
        for (int i = 0; i < cases; i++) {
            int a = i * 37 % 2001 - 1000, b = i * 91 % 2001 - 1000;
            int pair = a << 16 | b & 0xffff;
            int other = b << 16 | a & 0xffff;
            x.add((i * i + i / 7) % 4, pair, other, pair, other);
        }
        return x;
    }

    private static void dearest() {
        AskTree x = full(300);
        for (int t = 0; t < 20; t++) x.grow(8, 1);
        for (int i = 0; i < 60; i++) {
            x.folds(10, 8, 1);
            x.remove();
            x.cut(0, i, 3);
            x.near(0, i, i, i, i);
            x.vote(i, i, i, i);
            x.price(0, 0);
            x.tree(0, 5);
        }
    }

    private static void bestOnes() {
        AskTree x = full(50);
        for (int i = 0; i < 200; i++) {
            x.best(2);
            x.remove();
        }
    }

    public static void main(String[] args) {
        new AskTree();
        long before = made();
        for (int i = 0; i < 100; i++) new AskTree();
        check("a hundred new objects", before, 100 * 12_000L);
        before = made();
        dearest();
        check("an object with twenty trees", before, ELEMENTS / 10);
        before = made();
        bestOnes();
        check("an object with two hundred best trees", before, ELEMENTS / 10);
        if (wrong != 0) System.exit(1);
    }
}
