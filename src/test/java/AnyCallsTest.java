import java.lang.reflect.InvocationTargetException;
import java.lang.reflect.Method;
import java.lang.reflect.Modifier;
import java.util.ArrayList;
import java.util.Comparator;
import java.util.List;
import java.util.Random;

/**
 * Any arguments in any state: nothing is thrown but what the document names, the same calls have the
 * same answers, and a call that is refused changes nothing that can be asked for.
 */
public final class AnyCallsTest {
    private static final int[] EDGES = {
        Integer.MIN_VALUE, Integer.MAX_VALUE, -1000000, -3, -2, -1, 0, 1, 2, 3, 4, 5, 6, 7, 8, 9, 10, 11, 12,
        31, 32, 40, 41, 63, 64, 100, 101, 199, 200, 255, 256, 400, 500, 501, 600, 1000, 1024, 2000, 100000
    };
    private static final String[] TEXTS = {
        "ack=w+1000;loss=w/2;late=1000;", "ack=w/n;loss=w/t;late=w%m;mark=1/0;", "a:8 b:8=sum c:16=len",
        "ack=(1", "x:32=77 y:8=sum z:8=sum", "ack=64000;loss=64000;late=64000;"
    };

    public static void main(String[] args) throws Exception {
        List<Method> calls = new ArrayList<>();
        for (Method m : FlowHouse.class.getDeclaredMethods()) {
            if (Modifier.isPublic(m.getModifiers())) {
                calls.add(m);
            }
        }
        calls.sort(Comparator.comparing(Method::getName));
        for (int seed = 0; seed < 3000; seed++) {
            run(calls, seed);
        }
        Due.end("AnyCallsTest");
    }

    private static Object[] some(Random random, Class<?>[] types) {
        Object[] all = new Object[types.length];
        int range = 1 + random.nextInt(12);
        for (int i = 0; i < all.length; i++) {
            int v = random.nextInt(5) == 0 ? EDGES[random.nextInt(EDGES.length)] : random.nextInt(range);
            if (random.nextInt(30) == 0) {
                v = random.nextInt();
            }
            long wide = random.nextInt(4) == 0 ? random.nextLong() : v;
            all[i] = types[i] == int.class ? (Object) v : (Object) wide;
        }
        return all;
    }

    /** The answer, or 0.5 for the ArithmeticException that worth() may throw. */
    private static double answer(FlowHouse x, Method m, Object[] args) throws Exception {
        try {
            return ((Number) m.invoke(x, args)).doubleValue();
        } catch (InvocationTargetException e) {
            boolean due = m.getName().equals("worth") && e.getCause() instanceof ArithmeticException
                    && "by 0".equals(e.getCause().getMessage());
            Due.yes(m.getName() + " throws " + e.getCause(), due);
            return 0.5;
        }
    }

    private static void run(List<Method> calls, int seed) throws Exception {
        Random random = new Random(seed);
        FlowHouse x = new FlowHouse();
        FlowHouse y = new FlowHouse();
        List<Method> few = new ArrayList<>(calls);
        while (few.size() > 10 && random.nextInt(60) > 0) {
            few.remove(random.nextInt(few.size()));
        }
        boolean live = seed % 3 == 0;
        for (int i = 0; i < 512; i++) {
            Method m = (random.nextInt(4) == 0 ? calls : few).get(random.nextInt(random.nextInt(4) == 0
                    ? 10 : few.size()));
            Object[] args = some(random, m.getParameterTypes());
            if (live && i < 24) {
                m = prepared(calls, i);
                args = preparation(random, m, i);
            }
            if (m.getName().equals("feed") && random.nextBoolean()) {
                args = text(random);
            }
            long before = asked(x);
            double got = answer(x, m, args);
            Due.yes(m.getName() + " twice", got == answer(y, m, args));
            boolean reads = m.getName().equals("allow") || m.getName().equals("form");
            boolean answersData = m.getReturnType() == long.class || Modifier.isStatic(m.getModifiers());
            if (got >= -4 && got < 0 && !reads && !answersData && isRefusal(m, got)) {
                Due.same(m.getName() + " refused changes nothing", asked(x), before);
            }
        }
        Due.same("the same state", asked(x), asked(y));
    }

    /** Of the calls that change something these may answer a number below 0 that is no refusal. */
    private static boolean isRefusal(Method m, double got) {
        return !(m.getName().equals("rule") && got == -1);
    }

    private static Method prepared(List<Method> calls, int i) {
        String name = i < 8 ? "line" : i < 14 ? "flow" : i < 20 ? "luck" : "go";
        for (Method m : calls) {
            if (m.getName().equals(name)) {
                return m;
            }
        }
        return calls.get(0);
    }

    private static Object[] preparation(Random random, Method m, int i) {
        switch (m.getName()) {
            case "line":
                return new Object[] {1 + random.nextInt(100), random.nextInt(101), random.nextInt(2001),
                    random.nextInt(2001)};
            case "flow":
                return new Object[] {1 + random.nextInt(200), 1 + random.nextInt(30), 1 + random.nextInt(9),
                    3 + random.nextInt(6), 1 + random.nextInt(8) + 9 * (1 + random.nextInt(8)),
                    1 + random.nextInt(8), random.nextInt(50)};
            case "luck":
                return new Object[] {i - 14, random.nextInt(), random.nextInt(400)};
            default:
                return new Object[] {1 + random.nextInt(500)};
        }
    }

    private static Object[] text(Random random) {
        String text = TEXTS[random.nextInt(TEXTS.length)];
        int from = random.nextInt(2) * 20;
        Object[] five = new Object[5];
        for (int k = 0; k < 5; k++) {
            int all = 0;
            for (int b = 0; b < 4; b++) {
                int at = from + 4 * k + b;
                all = all << 8 | (at < text.length() ? text.charAt(at) : ' ');
            }
            five[k] = all;
        }
        return five;
    }

    /** All that can be asked for without changing anything, as one number. */
    private static long asked(FlowHouse x) {
        long all = 7;
        for (int what = 0; what < 8; what++) {
            all = 31 * all + x.count(what);
        }
        for (int i = 0; i < 8; i++) {
            for (int what = 0; what < 8; what++) {
                all = 31 * all + x.lineOf(i, what) + 7 * x.held(i, what);
            }
            for (int what = 0; what < 18 && i < 6; what++) {
                all = 31 * all + x.flowOf(i, what);
            }
            all = 31 * all + x.peak(i) + x.balance(i) + 3 * x.stair(i, 0) + 5 * x.stair(i, 1);
            all = 31 * all + x.heldBy(i) + x.share(i, 0) + x.share(i, 1);
            all = 31 * all + x.bad(i - 1) + 9 * x.grade(i) + x.more(i);
            for (int cell = 0; cell < 5; cell++) {
                all = 31 * all + x.get(i, 1, cell) + x.get(i, 2, cell) + x.get(i, 3, cell) + x.get(i, 4, cell);
                all = 31 * all + x.fieldOf(i, cell);
                all = 31 * all + x.octet(5 * i + cell, 0);
            }
        }
        for (int n = 1; n < 4; n++) {
            all = 31 * all + x.bound(10, 0, n, 0, 0) + x.bound(10, 0, n, 0, 1);
        }
        return all;
    }
}
