import java.lang.reflect.InvocationTargetException;
import java.lang.reflect.Method;
import java.util.ArrayList;
import java.util.Comparator;
import java.util.List;
import java.util.Random;

/** No call throws, for any arguments in any state, even beyond the 512th. */
public final class AnyArgumentsTest {
    private static final int[] EDGES = {
        Integer.MIN_VALUE, Integer.MIN_VALUE + 1, -40000, -32769, -32768, -1001, -1000, -2, -1, 0, 1, 2, 3, 4, 7, 8, 9, 10, 11,
        19, 20, 21, 50, 51, 100, 101, 255, 256, 299, 300, 301, 510, 511, 512, 1000, 1001, 10000, 10001, 32768, 65536,
        -2147450880, Integer.MAX_VALUE - 1, Integer.MAX_VALUE
    };

    private static int anyNumber(Random r) {
        int which = r.nextInt(10);
        if (which < 5) return r.nextInt(9);
        if (which < 8) return EDGES[r.nextInt(EDGES.length)];
        return which == 8 ? r.nextInt(2001) - 1000 << 16 | r.nextInt(1001) : r.nextInt();
    }

    /** A new object, one with as many cases as best() takes, or a full one. */
    private static AskTree start(int seed, Random r) {
        AskTree x = new AskTree();
        int cases = seed % 3 == 0 ? 0 : seed % 3 == 1 ? 50 : 300;
        for (int m = 0; m < 8; m++) x.sort(m, r.nextInt(2));
        for (int i = 0; i < cases; i++) x.add(r.nextInt(4), r.nextInt(9), r.nextInt(9) << 16, cases == 300 ? 32768 : i, r.nextInt(3));
        for (int t = 0; t < cases / 15; t++) x.grow(r.nextInt(9), 1 + r.nextInt(9));
        return x;
    }

    public static void main(String[] args) throws IllegalAccessException {
        List<Method> face = new ArrayList<>();
        for (Method m : AskTree.class.getMethods()) if (m.getDeclaringClass() == AskTree.class) face.add(m);
        face.sort(Comparator.comparing(Method::getName));
        int calls = 0;
        for (int seed = 0; seed < 150; seed++) {
            Random r = new Random(seed);
            AskTree x = start(seed, r);
            for (int i = 0; i < 2000; i++, calls++) {
                Method m = face.get(r.nextInt(face.size()));
                Object[] told = new Object[m.getParameterCount()];
                for (int a = 0; a < told.length; a++) told[a] = anyNumber(r);
                try {
                    m.invoke(x, told);
                } catch (InvocationTargetException e) {
                    System.out.println("seed " + seed + ": " + m.getName() + java.util.Arrays.toString(told) + " threw " + e.getCause());
                    System.exit(1);
                }
            }
        }
        System.out.println(calls + " calls, none threw");
    }
}
