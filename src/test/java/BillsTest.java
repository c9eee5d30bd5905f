import java.util.Arrays;
import java.util.Random;

/** Promises 38 to 42: sample, peak, bill, pay, balance. */
public final class BillsTest {
    private static final long NOTHING = FlowHouse.NOTHING;

    public static void main(String[] args) {
        refusals();
        peaks();
        byHand();
        for (int seed = 0; seed < 500; seed++) {
            randomBills(new Random(seed));
        }
        Due.end("BillsTest");
    }

    private static void refusals() {
        FlowHouse x = new FlowHouse();
        Due.same("sample", x.sample(-1, -1), FlowHouse.UNKNOWN);
        Due.same("sample", x.sample(6, 0), FlowHouse.UNKNOWN);
        Due.same("sample", x.sample(0, -1), FlowHouse.OUTSIDE);
        Due.same("sample", x.sample(0, 100001), FlowHouse.OUTSIDE);
        Due.same("peak", x.peak(0), FlowHouse.NO);
        Due.same("peak", x.peak(6), FlowHouse.UNKNOWN);
        Due.same("peak", x.peak(-1), FlowHouse.UNKNOWN);
        Due.same("bill without samples", x.bill(5), NOTHING);
        for (int i = 1; i <= 40; i++) {
            Due.same("sample", x.sample(0, 0), i);
        }
        Due.same("sample", x.sample(0, 0), FlowHouse.FULL);
        Due.same("sample: outside is ahead", x.sample(0, -1), FlowHouse.OUTSIDE);
        Due.same("all peaks are 0", x.bill(5), NOTHING);
        Due.same("nothing changed", x.balance(6), 0);
        x.sample(1, 100000);
        Due.same("bill", x.bill(-1), NOTHING);
        Due.same("bill", x.bill(1000001), NOTHING);
        Due.same("bill", x.bill(1000000), 1000000);
        Due.same("balance", x.balance(1), -1000000);
        Due.same("balance", x.balance(0), 0);
        Due.same("bill of 0", x.bill(0), 1000000);
        Due.same("pay", x.pay(-1, 1), NOTHING);
        Due.same("pay", x.pay(6, 1), NOTHING);
        Due.same("pay", x.pay(0, 0), NOTHING);
        Due.same("pay", x.pay(0, 1000001), NOTHING);
        Due.same("pay", x.pay(0, 1000000), 1000000);
        Due.same("pay", x.pay(0, 1), 1000001);
        Due.same("balance", x.balance(6), -1);
        Due.same("balance", x.balance(7), NOTHING);
        Due.same("balance", x.balance(-1), NOTHING);
    }

    private static void peaks() {
        FlowHouse x = new FlowHouse();
        int[] all = new int[0];
        Random random = new Random(5);
        for (int i = 1; i <= 40; i++) {
            int v = random.nextInt(50);
            Due.same("sample", x.sample(2, v), i);
            all = Arrays.copyOf(all, i);
            all[i - 1] = v;
            int[] rising = all.clone();
            Arrays.sort(rising);
            Due.same("peak of " + i, x.peak(2), rising[(95 * i - 1) / 100]);
        }
    }

    /** PEAKS 1, 1, 1: 10 is parted as 4, 3, 3. */
    private static void byHand() {
        FlowHouse x = new FlowHouse();
        x.sample(1, 1);
        x.sample(3, 1);
        x.sample(5, 1);
        x.sample(4, 0);
        Due.same("bill", x.bill(10), 10);
        long[] due = {0, -4, 0, -3, 0, -3, 10};
        for (int i = 0; i < 7; i++) {
            Due.same("balance " + i, x.balance(i), due[i]);
        }
        x.sample(0, 2);
        Due.same("bill: 2, 1, 1, 1 by 5 of 9", x.bill(9), 19);
        long[] then = {-3, -6, 0, -5, 0, -5, 19};
        for (int i = 0; i < 7; i++) {
            Due.same("balance " + i, x.balance(i), then[i]);
        }
    }

    private static void randomBills(Random random) {
        FlowHouse x = new FlowHouse();
        long[] balances = new long[7];
        for (int call = 0; call < 40; call++) {
            int account = random.nextInt(6);
            if (random.nextInt(3) > 0) {
                x.sample(account, random.nextInt(random.nextBoolean() ? 100001 : 5));
            }
            if (random.nextInt(4) == 0) {
                int v = 1 + random.nextInt(1000000);
                balances[account] += v;
                balances[6] -= v;
                Due.same("pay", x.pay(account, v), balances[account]);
            }
            if (random.nextInt(3) == 0) {
                int cost = random.nextInt(random.nextBoolean() ? 1000001 : 20);
                boolean done = part(x, cost, balances);
                Due.same("bill", x.bill(cost), done ? balances[6] : NOTHING);
            }
            long all = 0;
            for (int i = 0; i < 7; i++) {
                Due.same("balance", x.balance(i), balances[i]);
                all += x.balance(i);
            }
            Due.same("all together", all, 0);
        }
    }

    private static boolean part(FlowHouse x, long cost, long[] balances) {
        long sum = 0;
        for (int i = 0; i < 6; i++) {
            sum += Math.max(0, x.peak(i));
        }
        if (sum == 0) {
            return false;
        }
        Integer[] order = {0, 1, 2, 3, 4, 5};
        long[] rests = new long[6];
        long left = cost;
        for (int i = 0; i < 6; i++) {
            long product = cost * Math.max(0, x.peak(i));
            rests[i] = product % sum;
            balances[i] -= product / sum;
            left -= product / sum;
        }
        Arrays.sort(order, (a, b) -> rests[a] != rests[b] ? Long.compare(rests[b], rests[a]) : a - b);
        for (int i = 0; i < left; i++) {
            balances[order[i]]--;
        }
        balances[6] += cost;
        return true;
    }
}
