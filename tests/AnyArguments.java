import java.lang.reflect.Method;
import java.lang.reflect.Modifier;
import java.util.ArrayList;
import java.util.Comparator;
import java.util.List;
import java.util.Random;

/** No call may throw, for any arguments in any state; and the same calls always give the same answers. */
public final class AnyArguments {
    private static final long[] EDGES = {0, 1, 2, 3, 5, 6, 7, 9, 12, 24, 31, 32, 39, 40, 59, 60, 61, 63, 64, 99, 100, 101, 119, 120, 240, 241, 999, 1000, 2399,
        2400, 2401, 3999, 4000, 10000, 23992399, Integer.MAX_VALUE, Integer.MIN_VALUE, -1, -2, -100, -2000000000, 0xffffffffL, 1L << 32, Long.MAX_VALUE, Long.MIN_VALUE};

    private static long argument(Random dice, boolean wide) {
        int form = dice.nextInt(8);
        if (form < 3) return EDGES[dice.nextInt(EDGES.length)];
        if (form < 5) return dice.nextInt(4);
        if (form == 5) return dice.nextInt(3300);
        if (form == 6) return wide ? dice.nextLong() & (1L << dice.nextInt(34)) - 1 : 100 * dice.nextInt(10) + dice.nextInt(10);
        return wide ? dice.nextLong() : dice.nextInt();
    }

    private static List<Method> face() {
        List<Method> calls = new ArrayList<>();
        for (Method m : OneRoof.class.getDeclaredMethods()) if (Modifier.isPublic(m.getModifiers())) calls.add(m);
        calls.sort(Comparator.comparing(Method::getName));
        return calls;
    }

    private static OneRoof crowded(Random dice, int people) {
        OneRoof x = new OneRoof();
        for (int i = 0; i < people; i++) x.person(dice.nextInt(i + 1) - 1, 1 + dice.nextInt(99), dice.nextInt(2));
        for (int i = 0; i < 2 * people; i++) {
            x.kin(dice.nextInt(people), dice.nextInt(people));
            x.feud(100 * dice.nextInt(people) + dice.nextInt(people), dice.nextInt(50), dice.nextInt(4000));
            x.peace(10 * dice.nextInt(people) + dice.nextInt(6), dice.nextLong() & 0xffffffffL, 10000 * dice.nextInt(30) + 30 + dice.nextInt(2370), dice.nextInt(241));
        }
        return x;
    }

    private static long digest(int seed) throws Exception {
        Random dice = new Random(seed);
        OneRoof x = seed % 3 == 0 ? new OneRoof() : crowded(dice, seed % 3 == 1 ? 8 : 32);
        long digest = 0;
        List<Method> calls = face();
        for (int i = 0; i < 280; i++) {
            Method m = calls.get(dice.nextInt(calls.size()));
            Object[] arguments = new Object[m.getParameterCount()];
            for (int a = 0; a < arguments.length; a++) {
                boolean wide = m.getParameterTypes()[a] == long.class;
                long v = argument(dice, wide);
                arguments[a] = wide ? (Object) v : (Object) (int) v;
            }
            digest = digest * 31 + ((Number) m.invoke(x, arguments)).longValue();
        }
        return digest;
    }

    public static void main(String[] args) throws Exception {
        int wrong = 0;
        for (int seed = 0; seed < 600; seed++) {
            if (digest(seed) == digest(seed)) continue;
            wrong++;
            System.out.println("run " + seed + " gave other answers the second time");
        }
        System.out.println(wrong == 0 ? "no call threw, and all answers came twice" : wrong + " runs differ");
        if (wrong != 0) System.exit(1);
    }
}
