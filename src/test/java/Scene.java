import java.util.Arrays;

/** A state that objects are brought to, and calls on a new one in it each time. */
final class Scene {
    interface Ahead {
        void on(FlowHouse x);
    }

    interface Call {
        long on(FlowHouse x);
    }

    interface Told {
        long on(FlowHouse x, int v);
    }

    private final String name;
    private final Ahead ahead;
    private final long[][] asked = new long[Asked.PARTS][];
    private final long[][] askedWithoutTape = new long[Asked.PARTS][];

    Scene(String name, Ahead ahead) {
        this.name = name;
        this.ahead = ahead;
    }

    static Scene empty() {
        return new Scene("a new object", x -> { });
    }

    FlowHouse made() {
        FlowHouse x = new FlowHouse();
        ahead.on(x);
        return x;
    }

    private FlowHouse madeWithoutTape() {
        FlowHouse x = made();
        x.trim(0);
        return x;
    }

    void answers(String told, Call call, long due) {
        Due.same(name + ": " + told, call.on(made()), due);
    }

    /** It answers this, and what can be asked for is as it was. */
    void refuses(String told, Call call, long due) {
        for (int part = 0; part < Asked.PARTS; part++) {
            if (asked[part] == null) {
                asked[part] = Asked.all(made(), part);
            }
            FlowHouse x = made();
            Due.same(name + ": " + told, call.on(x), due);
            Due.yes(name + ": behind " + told + " all is as it was (" + part + ")",
                    Arrays.equals(Asked.all(x, part), asked[part]));
        }
    }

    /** The same of a text that is read: THE TAPE is used up, all else is as it was. */
    void refusesText(String text, Call call, long due) {
        for (int part = 0; part < Asked.PARTS; part++) {
            if (askedWithoutTape[part] == null) {
                askedWithoutTape[part] = Asked.all(madeWithoutTape(), part);
            }
            FlowHouse x = madeWithoutTape();
            Due.lay(x, text);
            Due.same(name + ": " + text, call.on(x), due);
            Due.yes(name + ": behind " + text + " all but THE TAPE is as it was (" + part + ")",
                    Arrays.equals(Asked.all(x, part), askedWithoutTape[part]));
        }
    }

    /** The first and the last number of a range are taken, those beyond are refused. */
    void range(String told, Told call, int low, int high, long refusal) {
        for (int v : new int[] {low, high}) {
            Due.yes(name + ": " + told + " " + v + " is taken", call.on(made(), v) != refusal);
        }
        outside(told, call, low, high, refusal);
    }

    /** The same, where what is taken is answered with 1. */
    void rangeOfOne(String told, Told call, int low, int high, long refusal) {
        answers(told + " " + low, x -> call.on(x, low), 1);
        answers(told + " " + high, x -> call.on(x, high), 1);
        outside(told, call, low, high, refusal);
    }

    /** Those beyond a range are refused, near and far. */
    void outside(String told, Told call, int low, int high, long refusal) {
        int[] beyond = {low - 1, high + 1, Integer.MIN_VALUE, Integer.MAX_VALUE, low - 256, high + 256};
        for (int v : beyond) {
            refuses(told + " " + v, x -> call.on(x, v), refusal);
        }
    }
}
