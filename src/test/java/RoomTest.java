import com.sun.management.ThreadMXBean;
import java.lang.management.ManagementFactory;

/**
 * What a run of 512 calls makes is small (rule 12 of LANGUAGE.md): each dear call, again and again,
 * with a new object. An element has a byte at least and an object 16, so what is looked at are
 * bytes: far fewer than a room of 7.3 million elements and 600,000 objects has.
 */
public final class RoomTest {
    private static final int CALLS = 512;
    private static final long MOST_BYTES = 400000;
    private static final ThreadMXBean MACHINE =
            (ThreadMXBean) ManagementFactory.getThreadMXBean();

    /** A run's i-th call; a run is 512 of them. */
    private interface Calls {
        void call(FlowHouse house, int i);
    }

    public static void main(String[] args) {
        looks("refused flows", (x, i) -> x.flow(1, 1, 1, 3, 728, 728, -1));
        looks("trials", (x, i) -> x.tried(4, 3, 2, 1));
        looks("films", RoomTest::film);
        looks("crates", (x, i) -> x.crate(i % 8, 3 + i % 3, 40));
        looks("texts", RoomTest::texts);
        looks("letters back", RoomTest::mended);
        looks("shares", RoomTest::shares);
        looks("a net", RoomTest::net);
        looks("samples and bills", RoomTest::bills);
        looks("no calls", (x, i) -> { });
        Due.end("RoomTest");
    }

    private static void looks(String name, Calls calls) {
        long id = Thread.currentThread().getId();
        run(calls);
        long before = MACHINE.getThreadAllocatedBytes(id);
        run(calls);
        long made = MACHINE.getThreadAllocatedBytes(id) - before;
        System.out.println("RoomTest: " + name + ": " + made + " bytes");
        Due.yes(name + " take " + made + " bytes", made < MOST_BYTES);
    }

    private static void run(Calls calls) {
        FlowHouse house = new FlowHouse();
        for (int i = 0; i < CALLS; i++) {
            calls.call(house, i);
        }
    }

    private static void film(FlowHouse x, int i) {
        if (i < 48) {
            x.piece(i / 4, i % 4, 1 + i, i);
        } else if (i < 60) {
            x.speed(i - 48, 1 + i);
        } else {
            x.film(12, i % 300, 400, 50);
        }
    }

    /** A text of 20 bytes by turns as a RULE and as a FORM: each makes new rows. */
    private static void texts(FlowHouse x, int i) {
        if (i % 4 == 0) {
            x.feed(0x61636B3D, 0x773B6C6F, 0x73733D31, 0x3B6C6174, 0x653D743B);
        } else if (i % 4 == 1) {
            Due.same("allow", x.allow(i / 4 % 6), 3);
        } else if (i % 4 == 2) {
            x.feed(0x613A3820, 0x623A3820, 0x633A3820, 0x643A3820, 0x653A3820);
        } else {
            Due.same("form", x.form(i / 4 % 4), 5);
        }
    }

    private static void mended(FlowHouse x, int i) {
        if (i == 0) {
            x.mend(6, 4, 8);
        } else if (i < 7) {
            x.data(i - 1, 987654321L * i);
        } else {
            x.back(0b1111001100, i % 6);
        }
    }

    private static void shares(FlowHouse x, int i) {
        if (i < 10) {
            x.want(i, -1, 1 + 5 * i);
        } else {
            x.share(i % 10, i % 2);
        }
    }

    /** As many LINES and FLOWS as there may be, and all the EVENTS. */
    private static void net(FlowHouse x, int i) {
        if (i < 8) {
            x.line(100, 100, 2000, 0);
        } else if (i < 16) {
            x.luck(i - 8, i, 100);
        } else if (i < 22) {
            int k = i - 15;
            x.flow(200, 1, 1, 8, k + 9 * (k + 1) + 81 * (k + 2), k + 2, 0);
        } else {
            x.go(500);
        }
    }

    private static void bills(FlowHouse x, int i) {
        if (i < 240) {
            x.sample(i % 6, i * 7);
        } else {
            x.bill(i * 11);
        }
    }
}
