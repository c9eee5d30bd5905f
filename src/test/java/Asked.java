/**
 * What an object can be asked for, part by part, so that two of them can be compared. Some of it shows
 * only when the object goes on: so it is not to be used any more then. Each part takes fewer calls than
 * an object has left of its 512, if at most 150 were made before.
 */
final class Asked {
    static final int PARTS = 5;
    static final int MOST_CALLS = 362;
    private static final long THROWN = 77777777777L;

    private final FlowHouse x;
    private final long[] answers = new long[MOST_CALLS];
    private int calls;

    private Asked(FlowHouse x) {
        this.x = x;
    }

    static long[] all(FlowHouse x, int part) {
        Asked asked = new Asked(x);
        for (int what = 0; what < 8; what++) {
            asked.keep(x.count(what));
        }
        switch (part) {
            case 0:
                asked.nets();
                break;
            case 1:
                asked.texts();
                break;
            case 2:
                asked.shares();
                break;
            case 3:
                asked.films();
                break;
            default:
                asked.store();
                break;
        }
        return asked.answers;
    }

    private void keep(long answer) {
        answers[calls] = answer;
        calls++;
    }

    private void figures() {
        for (int i = 0; i < 4; i++) {
            for (int what = 0; what < 8; what++) {
                keep(x.lineOf(i, what));
            }
        }
        for (int i = 0; i < 3; i++) {
            for (int what = 0; what < 18; what++) {
                keep(x.flowOf(i, what));
            }
            keep(x.given(i, 3));
        }
    }

    /** FATES that were told, and luck, show when the net goes on. */
    private void nets() {
        figures();
        keep(x.go(25));
        figures();
        keep(x.go(500));
        figures();
        keep(x.count(0));
        keep(x.count(3));
    }

    private long worth(int r, int text, int w) {
        try {
            return x.worth(r, text, w, 3, 5, 7, 11);
        } catch (ArithmeticException e) {
            return THROWN;
        }
    }

    private void values() {
        for (int r = 0; r < 6; r++) {
            for (int text = 0; text < 4; text++) {
                keep(worth(r, text, 2000));
            }
        }
    }

    /** THE TAPE shows when it is read as a RULE, what was filled in when letters are made. */
    private void texts() {
        values();
        for (int i = 0; i < 40; i++) {
            keep(x.octet(i, 0));
        }
        for (int f = 0; f < 4; f++) {
            keep(x.check(f));
            for (int i = 0; i < 5; i++) {
                keep(x.fieldOf(f, i));
            }
        }
        for (int f = 0; f < 4; f++) {
            keep(x.letter(f));
            for (int i = 0; i < 12; i++) {
                keep(x.octet(i, 0));
            }
            keep(x.cut(0));
        }
        keep(x.allow(5));
        values();
    }

    private void shares() {
        for (int i = 0; i < 10; i++) {
            keep(x.heldBy(i));
            keep(x.share(i, 0));
            keep(x.share(i, 1));
        }
        for (int n = 1; n <= 3; n++) {
            for (int what = 0; what < 2; what++) {
                keep(x.bound(100, 1, n, what, 0));
                keep(x.bound(100, 1, n, what, 1));
            }
            keep(x.bound(100, 0, n, 0, 0));
            keep(x.bound(100, 5, n, 0, 0));
        }
        for (int tube = 0; tube < 6; tube++) {
            keep(x.width(tube, 1));
        }
        for (int j = 0; j < 4; j++) {
            keep(x.more(j));
        }
        for (int set = 0; set < 32; set++) {
            keep(x.back(set, 0));
            keep(x.back(set, 2));
        }
        keep(x.data(0, -1));
        keep(x.more(0));
        for (int i = -1; i < 20; i++) {
            keep(x.bad(i));
        }
    }

    private void films() {
        for (int i = 0; i < 12; i++) {
            keep(x.grade(i));
        }
        for (int b = 0; b < 40; b++) {
            keep(x.film(1, b, 40, 1));
            keep(x.grade(0));
        }
        for (int b = 0; b < 40; b++) {
            keep(x.film(2, b, 40, 3));
        }
        for (int i = 0; i < 12; i++) {
            keep(x.speed(i, 1000));
        }
        for (int account = 0; account < 7; account++) {
            keep(x.peak(account));
            keep(x.balance(account));
        }
        keep(x.bill(999983));
        for (int account = 0; account < 7; account++) {
            keep(x.balance(account));
            keep(x.sample(account, 100000));
            keep(x.peak(account));
        }
    }

    /** Which shelves share their cells shows when these are set. */
    private void store() {
        for (int shelf = 0; shelf < 8; shelf++) {
            int kind = x.held(shelf, 0);
            keep(kind);
            keep(x.size(shelf, Math.max(1, Math.min(5, kind))));
            for (int i = 0; i < 5 && kind < 6; i++) {
                keep(x.get(shelf, Math.max(1, Math.min(4, kind)), i));
            }
            keep(x.asks(shelf, 0));
            keep(x.asks(shelf, 2));
            keep(x.stair(shelf, 0));
            keep(x.stair(shelf, 1));
        }
        for (int shelf = 0; shelf < 8; shelf++) {
            for (int type = 1; type < 4; type++) {
                keep(x.set(shelf, type, 1, shelf + 50));
            }
            keep(x.seat(shelf, 1, 6));
            for (int type = 1; type < 5; type++) {
                keep(x.get(shelf, type, 1));
            }
        }
        for (int shelf = 0; shelf < 8; shelf++) {
            for (int type = 1; type < 5; type++) {
                keep(x.get(shelf, type, 1));
            }
        }
        keep(x.host(0, 2));
    }
}
