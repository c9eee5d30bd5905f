/** A house in which each part is in use, made by fewer than 150 calls. */
final class Busy {
    static final Scene SCENE = new Scene("a busy house", Busy::make);

    private Busy() {
    }

    private static void make(FlowHouse x) {
        net(x);
        texts(x);
        shares(x);
        films(x);
        store(x);
    }

    private static void net(FlowHouse x) {
        x.line(10, 5, 200, 30);
        x.line(20, 3, 300, 300);
        x.line(5, 0, 40, 0);
        x.fate(0, 2, 1);
        x.fate(0, 12, 2);
        x.fate(1, 11, 4);
        x.luck(2, 99, 200);
        x.flow(40, 20, 2, 4, 1, 2, 0);
        x.flow(30, 9, 3, 3, 1 + 9 * 3, 2 + 9 * 3, 5);
        Due.allow(x, 0, "ack=w+900;loss=w/2;late=1000;mark=w-1;");
        Due.allow(x, 3, "ack=w+w/n;loss=1/0;late=s+t;");
        x.rule(0, 0);
        x.go(40);
    }

    private static void texts(FlowHouse x) {
        Due.form(x, 0, "a:4=5 b:4 c:8=len d:16=sum");
        Due.form(x, 2, "x:32 y:8=7");
        x.fill(0, 1, 9);
        x.fill(2, 0, 77);
        x.letter(0);
        x.octet(1, 1);
        Due.lay(x, "ack=1;loss=2;late=t;");
    }

    private static void shares(FlowHouse x) {
        x.want(0, 50, 1);
        x.want(3, -1, 3);
        x.want(9, 0, 0);
        x.width(0, 91);
        x.width(5, 7);
        x.server(0, 10, 5, 3, 4);
        x.server(2, 7, 1, 1, 1);
        x.mend(3, 2, 4);
        x.data(0, 305419896);
        x.data(2, -2);
        x.tried(2, 1, 1, 0);
    }

    private static void films(FlowHouse x) {
        for (int g = 0; g < 4; g++) {
            x.piece(0, g, 50 * (g + 1), 3 * g + 1);
            x.piece(1, g, 30 * (g + 1), 5 * g);
        }
        x.speed(0, 10);
        x.speed(1, 7);
        x.film(2, 20, 30, 4);
        for (int i = 1; i <= 4; i++) {
            x.sample(0, 10 * i);
            x.sample(3, 7 * i);
        }
        x.bill(1000);
        x.pay(3, 41);
    }

    private static void store(FlowHouse x) {
        for (int kind = 1; kind <= 5; kind++) {
            x.crate(kind - 1, kind, 3);
        }
        x.host(5, 0);
        x.host(6, 1);
        x.set(0, 1, 1, 11);
        x.set(1, 2, 1, 22);
        x.set(2, 3, 1, 33);
        x.seat(3, 0, 6);
        x.seat(3, 1, 5);
        x.seat(4, 0, 6);
        x.climb(3, 3, -1);
    }
}
