import java.lang.reflect.Method;
import java.lang.reflect.Modifier;

/** REFUSALS of all calls: with all arguments wrong at once, the first one that a promise names. */
final class EdgesOfRefusals {
    private static final int[] WRONG = {Integer.MIN_VALUE, -1000, 1000001, Integer.MAX_VALUE};

    private EdgesOfRefusals() {
    }

    static void all() throws ReflectiveOperationException {
        Document.term(Document.PARTS, "REFUSALS are answers; they change nothing (but THE TAPE, used up by what reads it); of "
                + "several the first one here, ahead of FAULTS: UNKNOWN (a number names nothing), OUTSIDE (not as told), NO (as "
                + "told), FULL. NOTHING stands for them where a long is answered.");
        int calls = 0;
        for (Method m : FlowHouse.class.getDeclaredMethods()) {
            if (Modifier.isPublic(m.getModifiers()) && !m.getName().equals("feed")) {
                calls++;
                for (int v : WRONG) {
                    refused(m, v);
                }
            }
        }
        Due.same("calls", calls, 54);
        tapes();
    }

    private static long due(Method m) {
        String promise = Document.promiseOf(m.getName());
        if (m.getReturnType() == long.class) {
            return FlowHouse.NOTHING;
        }
        return promise.contains("UNKNOWN") ? FlowHouse.UNKNOWN : FlowHouse.OUTSIDE;
    }

    private static long call(Method m, FlowHouse x, int v) {
        Class<?>[] types = m.getParameterTypes();
        Object[] args = new Object[types.length];
        for (int i = 0; i < args.length; i++) {
            args[i] = types[i] == int.class ? (Object) v : (Object) (long) v;
        }
        try {
            return ((Number) m.invoke(x, args)).longValue();
        } catch (ReflectiveOperationException e) {
            throw new IllegalStateException(e);
        }
    }

    private static void refused(Method m, int v) {
        String told = m.getName() + " with " + v + " all over";
        for (Scene scene : new Scene[] {Busy.SCENE, Scene.empty()}) {
            if (m.getName().equals("allow") || m.getName().equals("form")) {
                scene.refusesText("a:8 b:8", x -> call(m, x, v), due(m));
            } else {
                scene.refuses(told, x -> call(m, x, v), due(m));
            }
        }
    }

    /** Only what reads THE TAPE uses it up. */
    private static void tapes() {
        FlowHouse x = Busy.SCENE.made();
        x.letter(9);
        x.rule(0, 9);
        x.worth(9, 0, 0, 0, 0, 0, 0);
        x.fill(9, 0, 0);
        x.check(9);
        x.trim(21);
        Due.same("not used up", x.count(5), 20);
        Due.same("used up", x.form(9), FlowHouse.UNKNOWN);
        Due.same("used up", x.count(5), 0);
    }
}
