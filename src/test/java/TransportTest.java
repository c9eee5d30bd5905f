import java.util.ArrayList;
import java.util.HashMap;
import java.util.List;
import java.util.Map;

/** Promises 32 and 33: tried, bad, against a search over lists, for all there is to try. */
public final class TransportTest {
    public static void main(String[] args) {
        refusals();
        FlowHouse x = new FlowHouse();
        int most = 0;
        for (int u = 1; u <= 4; u++) {
            for (int q = 1; q <= 3; q++) {
                for (int c = 1; c <= 2; c++) {
                    for (int k = 0; k <= 1; k++) {
                        most = Math.max(most, compare(x, u, q, c, k));
                    }
                }
            }
        }
        System.out.println("TransportTest: " + most + " STATES at most");
        Due.end("TransportTest");
    }

    private static void refusals() {
        FlowHouse x = new FlowHouse();
        Due.same("bad before", x.bad(-1), FlowHouse.UNKNOWN);
        Due.same("bad before", x.bad(0), FlowHouse.UNKNOWN);
        int[][] bad = {
            {0, 1, 1, 0}, {5, 1, 1, 0}, {1, 0, 1, 0}, {1, 4, 1, 0}, {1, 1, 0, 0}, {1, 1, 3, 0}, {1, 1, 1, -1},
            {1, 1, 1, 2}
        };
        for (int[] a : bad) {
            Due.same("tried", x.tried(a[0], a[1], a[2], a[3]), FlowHouse.OUTSIDE);
        }
        Due.same("bad still", x.bad(-1), FlowHouse.UNKNOWN);
        x.tried(2, 1, 1, 0);
        Due.same("tried", x.tried(5, 1, 1, 0), FlowHouse.OUTSIDE);
        Due.same("what was found stays", x.bad(-1), 4);
        Due.same("bad", x.bad(4), FlowHouse.UNKNOWN);
        Due.same("bad", x.bad(-2), FlowHouse.UNKNOWN);
    }

    private static final class State {
        int unit;
        int given;
        List<Integer> there = new ArrayList<>();
        List<Integer> back = new ArrayList<>();
        List<Integer> steps = new ArrayList<>();

        State behind(int step) {
            State s = new State();
            s.unit = unit;
            s.given = given;
            s.there.addAll(there);
            s.back.addAll(back);
            s.steps.addAll(steps);
            s.steps.add(step);
            return s;
        }

        String name() {
            return unit + " " + given + " " + there + " " + back;
        }
    }

    /** null: the step can't be done; a State without a name to come back to: BAD. */
    private static State after(State from, int step, int q, int c, boolean[] bad) {
        State s = from.behind(step);
        if (step == 0) {
            s.there.add(s.unit);
            return s.there.size() > c ? null : s;
        }
        List<Integer> line = step % 2 == 1 ? s.there : s.back;
        if (line.isEmpty()) {
            return null;
        }
        int first = line.remove(0);
        if (step == 1) {
            if (first % q == s.given % q) {
                bad[0] = first != s.given;
                s.given++;
            }
            if (s.back.size() < c) {
                s.back.add(first % q);
            }
        } else if (step == 2 && first == s.unit % q) {
            s.unit++;
        } else if (step > 4) {
            line.add(first);
        }
        return s;
    }

    private static int compare(FlowHouse x, int u, int q, int c, int k) {
        Map<String, State> met = new HashMap<>();
        List<State> row = new ArrayList<>();
        row.add(new State());
        met.put(row.get(0).name(), row.get(0));
        List<Integer> worst = new ArrayList<>();
        for (int at = 0; at < row.size(); at++) {
            State s = row.get(at);
            for (int step = 0; step < (k == 1 ? 7 : 5) && s.unit < u; step++) {
                boolean[] bad = {false};
                State next = after(s, step, q, c, bad);
                if (next != null && bad[0] && worst.isEmpty()) {
                    worst = next.steps;
                }
                if (next != null && !bad[0] && met.putIfAbsent(next.name(), next) == null) {
                    row.add(next);
                }
            }
        }
        String call = "tried(" + u + ", " + q + ", " + c + ", " + k + ")";
        Due.same(call, x.tried(u, q, c, k), row.size());
        Due.same(call + " bad(-1)", x.bad(-1), worst.size());
        for (int i = 0; i < worst.size(); i++) {
            Due.same(call + " bad(" + i + ")", x.bad(i), worst.get(i));
        }
        Due.same(call + " bad behind", x.bad(worst.size()), FlowHouse.UNKNOWN);
        return row.size();
    }
}
