import java.util.Arrays;

/**
 * A flow house: nets of lines with queues, flows with rules of allowance, letters by forms, fair
 * shares, bounds, mended letters, a transport that is tried, films, bills, and a store of bytes.
 *
 * <p>The face only looks at arguments and hands them on; each part of the document has a class of
 * its own below. The capital words in comments are the document's.
 */
public final class FlowHouse {
    public static final int UNKNOWN = -1, OUTSIDE = -2, NO = -3, FULL = -4;
    public static final long NOTHING = Long.MIN_VALUE;

    private static final int MOST_LETTER = 40;
    private static final int FORMS = 4;
    private static final int ACCOUNTS = 6;
    private static final int MOST_SAMPLES = 40;
    private static final int FAULT_BASE = -10;

    private final Tape tape;
    private final Rules rules;
    private final Net net;
    private final Form[] forms;
    private final int[] letterBytes;
    private int letterLength;
    private final Shares shares;
    private final Mender mender;
    private Transport transport;
    private Film cinema;
    private final int[][] samples;
    private final int[] sampleCounts;
    private final long[] balances;
    private final long[] rests;
    private final Store store;

    public FlowHouse() {
        tape = new Tape();
        rules = new Rules(tape);
        net = new Net(rules);
        forms = new Form[FORMS];
        letterBytes = new int[MOST_LETTER];
        shares = new Shares();
        mender = new Mender();
        samples = new int[ACCOUNTS][MOST_SAMPLES];
        sampleCounts = new int[ACCOUNTS];
        balances = new long[ACCOUNTS + 1];
        rests = new long[ACCOUNTS];
        store = new Store();
    }

    private static boolean within(long value, long low, long high) {
        return low <= value && value <= high;
    }

    // ---- 1 lines

    public int line(int rate, int trip, int room, int mark) {
        if (!within(rate, 1, 100) || !within(trip, 0, 100)
                || !within(room, 0, 2000) || !within(mark, 0, 2000)) {
            return OUTSIDE;
        }
        if (net.lineCount >= Net.LINES) {
            return FULL;
        }
        return net.addLine(new Line(rate, trip, room, mark));
    }

    public int fate(int line, int number, int kind) {
        Line found = net.lineAt(line);
        if (found == null) {
            return UNKNOWN;
        }
        if (!within(number, 0, Line.FATES - 1) || !within(kind, 0, Line.SPOILT)) {
            return OUTSIDE;
        }
        return found.tellFate(number, kind) ? 1 : NO;
    }

    public int luck(int line, int seed, int loss) {
        Line found = net.lineAt(line);
        if (found == null) {
            return UNKNOWN;
        }
        if (!within(loss, 0, 1024)) {
            return OUTSIDE;
        }
        found.seed = seed;
        found.loss = loss;
        return 1;
    }

    public int lineOf(int line, int what) {
        Line found = net.lineAt(line);
        if (found == null) {
            return UNKNOWN;
        }
        return within(what, 0, 7) ? found.figure(what) : OUTSIDE;
    }

    // ---- 2 flows

    public int flow(int units, int data, int answer, int bits, int there, int back, int tick) {
        int[] out = net.readWay(there);
        int[] home = net.readWay(back);
        if (out.length == 0 || home.length == 0) {
            return UNKNOWN;
        }
        if (!within(units, 1, 200) || !within(data, 1, 200) || !within(answer, 1, 200)
                || !within(bits, 3, 8) || !within(tick, net.now, net.now + 1000L)) {
            return OUTSIDE;
        }
        if (net.flowCount >= Net.FLOWS) {
            return FULL;
        }
        return net.addFlow(new Flow(net.flowCount, units, data, answer, bits, out, home), tick);
    }

    public int rule(int flow, int r) {
        Flow found = net.flowAt(flow);
        if (found == null || !rules.isThere(r)) {
            return UNKNOWN;
        }
        int was = found.is[Flow.RULE];
        found.is[Flow.RULE] = r;
        return was;
    }

    public int go(int n) {
        if (!within(n, 1, 500)) {
            return OUTSIDE;
        }
        if (net.done + n > Net.MOST_EVENTS) {
            return FULL;
        }
        int did = 0;
        while (did < n && net.doNext()) {
            did++;
        }
        return did;
    }

    public int flowOf(int flow, int what) {
        Flow found = net.flowAt(flow);
        if (found == null) {
            return UNKNOWN;
        }
        return within(what, 0, Flow.FIGURES - 1) ? found.is[what] : OUTSIDE;
    }

    public int given(int flow, int i) {
        Flow found = net.flowAt(flow);
        if (found == null || !within(i, 0, found.is[Flow.HAS] - 1)) {
            return UNKNOWN;
        }
        return found.holds[i];
    }

    // ---- 3 rules

    public int feed(int a, int b, int c, int d, int e) {
        if (!tape.hasRoom()) {
            return FULL;
        }
        tape.append(a);
        tape.append(b);
        tape.append(c);
        tape.append(d);
        tape.append(e);
        return tape.length;
    }

    public int trim(int n) {
        if (!within(n, 0, tape.length)) {
            return OUTSIDE;
        }
        int went = tape.length - n;
        tape.length = n;
        return went;
    }

    public int allow(int r) {
        if (!within(r, 0, Rules.RULES - 1)) {
            tape.useUp();
            return UNKNOWN;
        }
        boolean good = rules.readRule(r);
        int place = tape.start;
        tape.useUp();
        return good ? rules.factors : FAULT_BASE - place;
    }

    public long worth(int r, int text, int w, int t, int m, int n, int s)
            throws ArithmeticException {
        if (!within(r, 0, Rules.RULES - 1) || !rules.isThere(r)
                || !within(text, 0, Rules.TEXTS - 1)) {
            return NOTHING;
        }
        rules.tellLetters(w, t, m, n, s);
        long value = rules.workOut(r, text);
        if (rules.failed) {
            throw new ArithmeticException("by 0");
        }
        return value;
    }

    // ---- 4 forms

    public int form(int f) {
        if (!within(f, 0, FORMS - 1)) {
            tape.useUp();
            return UNKNOWN;
        }
        Form read = new Form();
        boolean good = read.readText(tape);
        int place = tape.start;
        tape.useUp();
        if (!good) {
            return FAULT_BASE - place;
        }
        forms[f] = read;
        return read.fields;
    }

    private Form formAt(int f) {
        return within(f, 0, FORMS - 1) ? forms[f] : null;
    }

    public int fill(int f, int i, long v) {
        Form found = formAt(f);
        if (found == null || !found.hasField(i)) {
            return UNKNOWN;
        }
        if (!found.canHave(i, v)) {
            return OUTSIDE;
        }
        found.fillField(i, v);
        return 1;
    }

    public int letter(int f) {
        Form found = formAt(f);
        if (found == null) {
            return UNKNOWN;
        }
        found.writeLetter(letterBytes);
        letterLength = found.bytes();
        return letterLength;
    }

    public int octet(int i, int mask) {
        if (!within(i, 0, letterLength - 1)) {
            return UNKNOWN;
        }
        if (!within(mask, 0, 255)) {
            return OUTSIDE;
        }
        letterBytes[i] ^= mask;
        return letterBytes[i];
    }

    public int cut(int n) {
        if (!within(n, 0, MOST_LETTER)) {
            return OUTSIDE;
        }
        for (int i = letterLength; i < n; i++) {
            letterBytes[i] = 0;
        }
        letterLength = n;
        return 1;
    }

    public int check(int f) {
        Form found = formAt(f);
        if (found == null) {
            return UNKNOWN;
        }
        return found.bytes() == letterLength ? found.firstWrong(letterBytes) : -1;
    }

    public long fieldOf(int f, int i) {
        Form found = formAt(f);
        if (found == null || !found.hasField(i) || found.bytes() != letterLength) {
            return NOTHING;
        }
        return found.valueIn(letterBytes, i);
    }

    // ---- 5 shares, 6 bounds

    public int want(int i, int want, int tubes) {
        if (!within(i, 0, Shares.FLOWS - 1)) {
            return UNKNOWN;
        }
        if (!within(want, Shares.NO_END, 1000) || !within(tubes, 0, (1 << Shares.TUBES) - 1)) {
            return OUTSIDE;
        }
        shares.wants[i] = want;
        shares.tubes[i] = tubes;
        return 1;
    }

    public int width(int tube, int w) {
        if (!within(tube, 0, Shares.TUBES - 1)) {
            return UNKNOWN;
        }
        if (!within(w, 1, 1000)) {
            return OUTSIDE;
        }
        int was = shares.widths[tube];
        shares.widths[tube] = w;
        return was;
    }

    public long share(int i, int side) {
        if (!shares.hasFlow(i) || !within(side, 0, 1) || !shares.settle()) {
            return NOTHING;
        }
        return side == 0 ? shares.uppers[i] : shares.lowers[i];
    }

    public int heldBy(int i) {
        if (!shares.hasFlow(i)) {
            return UNKNOWN;
        }
        return shares.settle() ? shares.holders[i] : NO;
    }

    public int server(int i, int rate, int delay, int burst, int others) {
        if (!within(i, 0, Shares.SERVERS - 1)) {
            return UNKNOWN;
        }
        if (!within(rate, 1, 500) || !within(delay, 0, 1000)
                || !within(burst, 0, 5000) || !within(others, 0, rate - 1L)) {
            return OUTSIDE;
        }
        shares.restRates[i] = rate - others;
        shares.restWorks[i] = delay * rate + burst;
        return 1;
    }

    public long bound(int b, int r, int n, int what, int side) {
        if (!within(b, 0, 10000) || !within(r, 0, 500) || !within(n, 1, Shares.SERVERS)
                || !within(what, 0, 1) || !within(side, 0, 1)) {
            return NOTHING;
        }
        int rate = shares.leastRate(n);
        if (r > rate) {
            return NOTHING;
        }
        shares.sumDelays(n);
        if (what == 0) {
            shares.addToSum(b, rate);
        } else {
            shares.timesSum(r);
            shares.addToSum(b, 1);
        }
        return side == 0 ? shares.sumUpper : shares.sumLower;
    }

    // ---- 7 mended letters

    public int mend(int k, int m, int l) {
        if (!within(k, 1, Mender.MOST_LETTERS) || !within(m, 1, 4) || !within(l, 1, 8)) {
            return OUTSIDE;
        }
        mender.startAnew(k, m, l);
        return 1;
    }

    public int data(int i, long v) {
        if (!mender.hasLetter(i)) {
            return UNKNOWN;
        }
        mender.putLetter(i, v);
        return 1;
    }

    public long more(int j) {
        return within(j, 0, mender.extras - 1) ? mender.extraLetter(j) : NOTHING;
    }

    public long back(int set, int i) {
        if (!mender.hasLetter(i) || !mender.isEnough(set)) {
            return NOTHING;
        }
        return mender.solve(set, i);
    }

    // ---- 8 a transport

    public int tried(int u, int q, int c, int k) {
        if (!within(u, 1, Transport.MOST_UNITS) || !within(q, 1, Transport.MOST_NUMBERS)
                || !within(c, 1, 2) || !within(k, 0, 1)) {
            return OUTSIDE;
        }
        if (transport == null) {
            transport = new Transport();
        }
        return transport.tryAll(u, q, c, k == 1);
    }

    public int bad(int i) {
        if (transport == null) {
            return UNKNOWN;
        }
        int[] row = transport.badRow;
        if (i == -1) {
            return row.length;
        }
        return within(i, 0, row.length - 1) ? row[i] : UNKNOWN;
    }

    // ---- 9 films, 10 bills

    /** Films are seldom asked for, and their rows are long: they are made with the first call. */
    private Film openCinema() {
        if (cinema == null) {
            cinema = new Film();
        }
        return cinema;
    }

    public int piece(int i, int grade, int size, int worth) {
        if (!within(i, 0, Film.PIECES - 1) || !within(grade, 0, Film.GRADES - 1)) {
            return UNKNOWN;
        }
        if (!within(size, 1, 1000) || !within(worth, 0, 1000)) {
            return OUTSIDE;
        }
        openCinema().tellPiece(i, grade, size, worth);
        return 1;
    }

    public int speed(int i, int v) {
        if (!within(i, 0, Film.PIECES - 1)) {
            return UNKNOWN;
        }
        if (!within(v, 1, 1000)) {
            return OUTSIDE;
        }
        Film here = openCinema();
        int was = here.speeds[i];
        here.speeds[i] = v;
        return was;
    }

    public int film(int n, int b, int most, int length) {
        if (!within(n, 1, Film.PIECES) || !within(most, 1, Film.MOST_FULL)
                || !within(b, 0, most) || !within(length, 1, 100)) {
            return OUTSIDE;
        }
        return openCinema().find(n, b, most, length);
    }

    public int grade(int i) {
        if (cinema == null || !within(i, 0, cinema.found - 1)) {
            return UNKNOWN;
        }
        return cinema.grades[i];
    }

    public int sample(int account, int v) {
        if (!within(account, 0, ACCOUNTS - 1)) {
            return UNKNOWN;
        }
        if (!within(v, 0, 100000)) {
            return OUTSIDE;
        }
        if (sampleCounts[account] >= MOST_SAMPLES) {
            return FULL;
        }
        putInOrder(samples[account], sampleCounts[account], v);
        sampleCounts[account]++;
        return sampleCounts[account];
    }

    private static void putInOrder(int[] row, int filled, int v) {
        int at = filled;
        while (at > 0 && row[at - 1] > v) {
            row[at] = row[at - 1];
            at--;
        }
        row[at] = v;
    }

    public int peak(int account) {
        if (!within(account, 0, ACCOUNTS - 1)) {
            return UNKNOWN;
        }
        return sampleCounts[account] == 0 ? NO : peakOf(account);
    }

    /** SAMPLES are kept rising; without any the PEAK counts as 0 in a bill. */
    private int peakOf(int account) {
        int filled = sampleCounts[account];
        return filled == 0 ? 0 : samples[account][(95 * filled - 1) / 100];
    }

    public long bill(int cost) {
        long all = 0;
        for (int i = 0; i < ACCOUNTS; i++) {
            all += peakOf(i);
        }
        if (!within(cost, 0, 1000000) || all == 0) {
            return NOTHING;
        }
        long left = chargeWholeParts(cost, all);
        chargeLeft(left);
        balances[ACCOUNTS] += cost;
        return balances[ACCOUNTS];
    }

    private long chargeWholeParts(long cost, long all) {
        long left = cost;
        for (int i = 0; i < ACCOUNTS && all > 0; i++) {
            long product = cost * peakOf(i);
            rests[i] = product % all;
            balances[i] -= product / all;
            left -= product / all;
        }
        return left;
    }

    private void chargeLeft(long left) {
        for (long ones = left; ones > 0; ones--) {
            int greatest = 0;
            for (int i = 1; i < ACCOUNTS; i++) {
                if (rests[i] > rests[greatest]) {
                    greatest = i;
                }
            }
            balances[greatest]--;
            rests[greatest] = -1;
        }
    }

    public long pay(int account, int v) {
        if (!within(account, 0, ACCOUNTS - 1) || !within(v, 1, 1000000)) {
            return NOTHING;
        }
        balances[account] += v;
        balances[ACCOUNTS] -= v;
        return balances[account];
    }

    public long balance(int account) {
        return within(account, 0, ACCOUNTS) ? balances[account] : NOTHING;
    }

    // ---- 11 the store

    public int crate(int shelf, int kind, int n) {
        if (!store.hasShelf(shelf)) {
            return UNKNOWN;
        }
        if (!within(kind, Store.BYTES, Store.MAIL_ENDS) || n > Store.MOST_CELLS) {
            return OUTSIDE;
        }
        return n < 0 ? FAULT_BASE - Store.BAD_LENGTH : store.putCells(shelf, kind, n);
    }

    public int host(int shelf, int kind) {
        if (!store.hasShelf(shelf)) {
            return UNKNOWN;
        }
        if (!within(kind, Store.PLAIN, Store.SAFE_MAIL)) {
            return OUTSIDE;
        }
        return store.hostsMade >= Store.MOST_HOSTS ? FULL : store.putHost(shelf, kind);
    }

    public int move(int shelf, int from) {
        if (!store.hasShelf(shelf) || !(from == -1 || store.hasShelf(from))) {
            return UNKNOWN;
        }
        return store.putSame(shelf, from);
    }

    public int held(int shelf, int what) {
        if (!store.hasShelf(shelf)) {
            return UNKNOWN;
        }
        if (!within(what, 0, Store.TYPE_MAIL)) {
            return OUTSIDE;
        }
        return what == 0 ? store.kinds[shelf] : store.isOf(shelf, what) ? 1 : 0;
    }

    public int size(int shelf, int type) {
        if (!store.hasShelf(shelf)) {
            return UNKNOWN;
        }
        if (!within(type, Store.BYTES, Store.MAIL_ENDS)) {
            return OUTSIDE;
        }
        int fault = store.castFault(shelf, type);
        return fault != 0 ? FAULT_BASE - fault : store.cells[shelf].length;
    }

    public long get(int shelf, int type, int i) {
        if (!store.hasShelf(shelf) || !within(type, Store.BYTES, Store.ENDS)
                || store.cellFault(shelf, type, i) != 0) {
            return NOTHING;
        }
        return store.cells[shelf][i];
    }

    public int set(int shelf, int type, int i, long v) {
        if (!store.hasShelf(shelf)) {
            return UNKNOWN;
        }
        if (!within(type, Store.BYTES, Store.LONGS)) {
            return OUTSIDE;
        }
        int fault = store.cellFault(shelf, type, i);
        if (fault != 0) {
            return FAULT_BASE - fault;
        }
        store.cells[shelf][i] = type == Store.BYTES ? (byte) v : type == Store.INTS ? (int) v : v;
        return 1;
    }

    public int seat(int shelf, int i, int other) {
        if (!store.hasShelf(shelf) || !store.hasShelf(other)) {
            return UNKNOWN;
        }
        int fault = store.seatFault(shelf, i, other);
        if (fault != 0) {
            return FAULT_BASE - fault;
        }
        store.cells[shelf][i] = store.hostOn(other);
        return 1;
    }

    public int shift(int shelf, int at, int other, int to, int n) {
        if (!store.hasShelf(shelf) || !store.hasShelf(other)) {
            return UNKNOWN;
        }
        int fault = store.shiftFault(shelf, other);
        if (fault == 0 && !(store.hasCells(shelf, at, n) && store.hasCells(other, to, n))) {
            fault = Store.BAD_INDEX;
        }
        if (fault == 0) {
            fault = store.copyCells(shelf, at, other, to, n);
        }
        return fault != 0 ? FAULT_BASE - fault : 1;
    }

    public long part(int shelf, int i, int b) {
        if (!store.hasShelf(shelf) || store.cellFault(shelf, Store.LONGS, i) != 0 || b == 0) {
            return NOTHING;
        }
        store.cells[shelf][i] /= b;
        return store.cells[shelf][i];
    }

    public int asks(int shelf, int what) {
        if (!store.hasShelf(shelf)) {
            return UNKNOWN;
        }
        if (!within(what, 0, 2)) {
            return OUTSIDE;
        }
        int fault = store.castFault(shelf, what == 0 ? Store.HOST : Store.TYPE_MAIL);
        if (fault != 0) {
            return FAULT_BASE - fault;
        }
        int number = store.hostOn(shelf);
        if (what == 0) {
            return store.costOf(number);
        }
        return what == 1 ? store.stampsOf(number) : store.costOf(number) * store.stampsOf(number);
    }

    public int climb(int shelf, int n, int stopAt) {
        if (!store.hasShelf(shelf)) {
            return UNKNOWN;
        }
        if (!within(n, 1, Store.STAIRS)) {
            return OUTSIDE;
        }
        store.goUpAndDown(n);
        int fault = store.stampFault(shelf);
        if (fault != 0) {
            return within(stopAt, 0, n - 1) ? 100 + fault : FAULT_BASE - fault;
        }
        return store.stampsOf((int) store.cells[shelf][0]);
    }

    public int stair(int k, int what) {
        if (!within(k, 0, Store.STAIRS - 1)) {
            return UNKNOWN;
        }
        if (!within(what, 0, 1)) {
            return OUTSIDE;
        }
        return what == 0 ? store.entered[k] : store.left[k];
    }

    public int count(int what) {
        switch (what) {
            case 0:
                return net.now;
            case 1:
                return net.lineCount;
            case 2:
                return net.flowCount;
            case 3:
                return net.done;
            case 4:
                return net.stillToCome();
            case 5:
                return tape.length;
            case 6:
                return letterLength;
            case 7:
                return store.hostsMade;
            default:
                return OUTSIDE;
        }
    }

    /** How many TICKS or the like: x by y, up to a whole one. */
    private static int dividedUp(int x, int y) {
        return y < 1 ? 0 : (x + y - 1) / y;
    }

    /** A LINE with those that wait, and the LETTER that is being sent. */
    private static final class Line {
        static final int FATES = 200;
        static final int LOST = 1, DOUBLED = 2, LATE = 3, SPOILT = 4;
        private static final int MOST_WAITING = 60;

        final int rate;
        final int trip;
        private final int room;
        private final int mark;
        int seed;
        int loss;
        private final byte[] told = new byte[FATES];
        private final int[] queue = new int[MOST_WAITING];
        private int first;
        int waiting;
        private int waitingSizes;
        private int came;
        private int began;
        private int dropped;
        private int marked;
        private int lost;
        boolean sending;
        int letter;
        int fate;

        Line(int rate, int trip, int room, int mark) {
            this.rate = rate;
            this.trip = trip;
            this.room = room;
            this.mark = mark;
        }

        /** Told FATES are kept as 1 more, so that 0 stands for "not told". */
        boolean tellFate(int number, int kind) {
            if (number < began || number < 0 || number >= FATES || told[number] != 0) {
                return false;
            }
            told[number] = (byte) (kind + 1);
            return true;
        }

        void noteComing() {
            came++;
        }

        void queueUp(int coming, int size) {
            if (waiting >= MOST_WAITING || waitingSizes + size > room) {
                dropped++;
                return;
            }
            waitingSizes += size;
            int kept = coming;
            if (waitingSizes > mark) {
                marked++;
                kept |= Net.MARKED;
            }
            queue[(first + waiting) % MOST_WAITING] = kept;
            waiting++;
        }

        int firstWaiting() {
            return queue[first];
        }

        void takeFirstWaiting(int size) {
            first = (first + 1) % MOST_WAITING;
            waiting--;
            waitingSizes -= size;
        }

        /** It gets the next NUMBER, and its FATE with it: that told, or else by luck. */
        void beginSending(int next) {
            int x = seed + began * (int) 2654435761L;
            x = (x ^ x >>> 15) * 739;
            fate = x >>> 22 < loss ? LOST : 0;
            if (began < FATES && told[began] != 0) {
                fate = told[began] - 1;
            }
            began++;
            if (fate == LOST) {
                lost++;
            }
            sending = true;
            letter = fate == SPOILT ? next | Net.SPOILT : next;
        }

        int figure(int what) {
            switch (what) {
                case 0:
                    return came;
                case 1:
                    return began;
                case 2:
                    return dropped;
                case 3:
                    return marked;
                case 4:
                    return waiting;
                case 5:
                    return waitingSizes;
                case 6:
                    return sending ? 1 : 0;
                default:
                    return lost;
            }
        }
    }

    /** A FLOW: both of its ends. Its figures stand in one row, as flowOf() names them. */
    private static final class Flow {
        static final int SENT = 0, OPEN = 1, HAS = 2, ALLOWANCE = 3, WAIT = 4, SMOOTH = 5;
        static final int SWING = 6, LEAST = 7, DATA = 8, AGAIN = 9, ANSWERS = 10, TWINS = 11;
        static final int FAILS = 12, WRONG = 13, ALARM = 14, BEGAN = 15, RULE = 16, FENCE = 17;
        static final int FIGURES = 18;
        private static final int NONE = -1;
        private static final int SENT_AGAIN = -1;

        final int number;
        final int units;
        final int dataSize;
        final int answerSize;
        final int bits;
        final int[] there;
        final int[] home;
        final int[] is = new int[FIGURES];
        /** The tick a UNIT was sent at, as long as it was sent once. */
        private final int[] sentAt;
        /** The UNIT that came as the one of this place, be it GIVEN or only held. */
        final int[] holds;
        int latest = NONE;
        long alarm;

        Flow(int number, int units, int dataSize, int answerSize, int bits, int[] there,
                int[] home) {
            this.number = number;
            this.units = units;
            this.dataSize = dataSize;
            this.answerSize = answerSize;
            this.bits = bits;
            this.there = there;
            this.home = home;
            sentAt = new int[Math.max(units, 0)];
            holds = new int[Math.max(units, 0)];
            Arrays.fill(holds, NONE);
            is[ALLOWANCE] = Rules.LEAST_ALLOWANCE;
            is[WAIT] = 100;
            is[SMOOTH] = NONE;
            is[SWING] = NONE;
            is[LEAST] = NONE;
            is[ALARM] = NO;
            is[RULE] = Rules.AT_FIRST;
        }

        boolean hasAlarm() {
            return is[ALARM] != NO;
        }

        int underWay() {
            return is[SENT] - is[OPEN];
        }

        boolean maySend() {
            int half = 1 << bits - 1;
            return is[SENT] < units && underWay() < half && underWay() < is[ALLOWANCE] / 1000;
        }

        void noteSending(int unit, int now) {
            is[DATA]++;
            if (unit < is[SENT]) {
                is[AGAIN]++;
                sentAt[unit] = SENT_AGAIN;
            } else {
                is[SENT]++;
                sentAt[unit] = now;
            }
        }

        /** Takes DATA in; answers whether it was looked at. */
        boolean takeIn(int sent) {
            int low = is[HAS] - (1 << bits - 1);
            int unit = low + (sent - low & (1 << bits) - 1);
            if (unit < 0 || unit >= units) {
                return false;
            }
            if (holds[unit] == NONE) {
                holds[unit] = sent;
            }
            while (is[HAS] < units && holds[is[HAS]] != NONE) {
                if (holds[is[HAS]] != is[HAS]) {
                    is[WRONG]++;
                }
                is[HAS]++;
            }
            return true;
        }

        /** The UNIT an ANSWER's number means. */
        int unitAnswered(int number) {
            return is[OPEN] + (number - is[OPEN] & (1 << bits) - 1);
        }

        void noteTrial(int unit, int now) {
            if (unit < 0 || unit >= units || sentAt[unit] == SENT_AGAIN) {
                return;
            }
            int trial = now - sentAt[unit];
            latest = trial;
            is[LEAST] = is[LEAST] == NONE ? trial : Math.min(is[LEAST], trial);
            if (is[SMOOTH] == NONE) {
                is[SMOOTH] = trial;
                is[SWING] = trial / 2;
            } else {
                is[SWING] += (Math.abs(is[SMOOTH] - trial) - is[SWING]) / 4;
                is[SMOOTH] += (trial - is[SMOOTH]) / 8;
            }
            int wait = is[SMOOTH] + Math.max(4 * is[SWING], 2);
            is[WAIT] = Math.max(4, Math.min(Net.MOST_WAIT, wait));
        }
    }

    /**
     * LINES and FLOWS, run by EVENTS.
     *
     * <p>A LETTER is one int, so that thousands of them make no objects: FLOW (3 bits), SPOILT,
     * MARKED, ANSWER (a bit each), which LINE of its way it is on (2 bits), and the UNIT that was
     * sent, or the ANSWER's number (8 bits). An EVENT is one long: its tick (25 bits: 30000 EVENTS
     * of at most 1000 ticks each), how many were made before it (20 bits: each EVENT makes a few),
     * its kind (2 bits), and the LETTER, LINE or FLOW; so the least long is the next one.
     */
    private static final class Net {
        static final int LINES = 8, FLOWS = 6;
        static final int MOST_EVENTS = 30000;
        static final int MOST_WAIT = 400;
        static final int MARKED = 1 << 11, SPOILT = 1 << 12;
        private static final int ANSWER = 1 << 10;
        private static final int ONE_HOP = 1 << 8;
        private static final int HOP_AT = 8, FLOW_AT = 13;
        private static final int KIND_AT = 16, MADE_AT = 18, TICK_AT = 38;
        private static final int SENT_TO_END = 0, ARRIVAL = 1;
        private static final int BEGINNING = 2;
        private static final int LATE_TICKS = 7;
        /** One EVENT has a LETTER sent and two ARRIVALS made at most; ALARMS stand elsewhere. */
        private static final int MOST_MADE_AT_ONCE = 3;

        private final Rules rules;
        private final Line[] lines = new Line[LINES];
        private final Flow[] flows = new Flow[FLOWS];
        int lineCount;
        int flowCount;
        int now;
        int done;
        private int made;
        /** A heap: the least EVENT first. */
        private long[] events = new long[64];
        private int pending;

        Net(Rules rules) {
            this.rules = rules;
        }

        Line lineAt(int i) {
            return i >= 0 && i < lineCount && i < LINES ? lines[i] : null;
        }

        Flow flowAt(int i) {
            return i >= 0 && i < flowCount && i < FLOWS ? flows[i] : null;
        }

        int addLine(Line line) {
            if (lineCount >= LINES) {
                return FULL;
            }
            lines[lineCount] = line;
            lineCount++;
            return lineCount - 1;
        }

        int addFlow(Flow flow, int tick) {
            if (flowCount >= FLOWS) {
                return FULL;
            }
            flows[flowCount] = flow;
            flowCount++;
            makeRoomForEvents();
            plan(tick, BEGINNING, flowCount - 1);
            return flowCount - 1;
        }

        /** The LINES of a way as told; none at all, if it is no way. */
        int[] readWay(int told) {
            if (told < 1 || told >= 9 * 9 * 9) {
                return new int[0];
            }
            int[] way = new int[told >= 9 * 9 ? 3 : told >= 9 ? 2 : 1];
            int rest = told;
            for (int i = 0; i < way.length; i++) {
                way[i] = rest % 9 - 1;
                rest /= 9;
                if (lineAt(way[i]) == null) {
                    return new int[0];
                }
            }
            return way;
        }

        int stillToCome() {
            int all = pending;
            for (int i = 0; i < flowCount; i++) {
                Flow flow = flowAt(i);
                if (flow != null && flow.hasAlarm()) {
                    all++;
                }
            }
            return all;
        }

        private void makeRoomForEvents() {
            if (pending + MOST_MADE_AT_ONCE > events.length) {
                events = Arrays.copyOf(events, 2 * events.length);
            }
        }

        private void plan(int tick, int kind, int what) {
            if (pending >= events.length) {
                return;
            }
            long event = (long) tick << TICK_AT | (long) made << MADE_AT
                    | (long) kind << KIND_AT | what;
            made++;
            int at = pending;
            pending++;
            while (at > 0 && events[(at - 1) / 2] > event) {
                events[at] = events[(at - 1) / 2];
                at = (at - 1) / 2;
            }
            events[at] = event;
        }

        private long takeFirst() {
            long first = events[0];
            pending--;
            long last = events[pending];
            int at = 0;
            int below = 1;
            while (below < pending) {
                if (below + 1 < pending && events[below + 1] < events[below]) {
                    below++;
                }
                if (events[below] >= last) {
                    break;
                }
                events[at] = events[below];
                at = below;
                below = 2 * at + 1;
            }
            events[at] = last;
            return first;
        }

        private Flow firstToRing() {
            Flow first = null;
            for (int i = 0; i < flowCount; i++) {
                Flow flow = flowAt(i);
                if (flow != null && flow.hasAlarm()
                        && (first == null || flow.alarm < first.alarm)) {
                    first = flow;
                }
            }
            return first;
        }

        /** Does the next EVENT, if there is one. */
        boolean doNext() {
            makeRoomForEvents();
            Flow sender = firstToRing();
            if (sender != null && (pending == 0 || sender.alarm < events[0])) {
                ring(sender);
            } else if (pending > 0) {
                long event = takeFirst();
                now = (int) (event >> TICK_AT);
                sender = null;
                int what = (int) event & (1 << KIND_AT) - 1;
                int kind = (int) event >> KIND_AT & 3;
                if (kind == SENT_TO_END) {
                    endSending(what);
                } else if (kind == ARRIVAL) {
                    sender = arrive(what);
                } else {
                    sender = beginFlow(what);
                }
            } else {
                return false;
            }
            done++;
            sendAsMay(sender);
            return true;
        }

        private Flow beginFlow(int i) {
            Flow flow = flowAt(i);
            if (flow != null) {
                flow.is[Flow.BEGAN] = 1;
            }
            return flow;
        }

        private int sizeOf(int letter) {
            Flow flow = flowAt(letter >> FLOW_AT);
            if (flow == null) {
                return 1;
            }
            return (letter & ANSWER) != 0 ? flow.answerSize : flow.dataSize;
        }

        private void come(int lineNumber, int letter) {
            Line line = lineAt(lineNumber);
            if (line == null) {
                return;
            }
            line.noteComing();
            int size = sizeOf(letter);
            if (line.sending) {
                line.queueUp(letter, size);
            } else {
                begin(line, lineNumber, letter, size);
            }
        }

        private void begin(Line line, int lineNumber, int letter, int size) {
            line.beginSending(letter);
            plan(now + dividedUp(size, line.rate), SENT_TO_END, lineNumber);
        }

        private void endSending(int lineNumber) {
            Line line = lineAt(lineNumber);
            if (line == null) {
                return;
            }
            int letter = line.letter;
            int fate = line.fate;
            line.sending = false;
            if (line.waiting > 0) {
                int next = line.firstWaiting();
                int size = sizeOf(next);
                line.takeFirstWaiting(size);
                begin(line, lineNumber, next, size);
            }
            if (fate == Line.LOST) {
                return;
            }
            int tick = now + line.trip;
            plan(fate == Line.LATE ? tick + LATE_TICKS : tick, ARRIVAL, letter);
            if (fate == Line.DOUBLED) {
                plan(tick + 1, ARRIVAL, letter);
            }
        }

        /** Answers the FLOW that may send more now, or null. */
        private Flow arrive(int letter) {
            Flow flow = flowAt(letter >> FLOW_AT);
            if (flow == null) {
                return null;
            }
            boolean answers = (letter & ANSWER) != 0;
            int[] way = answers ? flow.home : flow.there;
            int hop = (letter >> HOP_AT & 3) + 1;
            if (hop < way.length) {
                come(way[hop], letter + ONE_HOP);
                return null;
            }
            if ((letter & SPOILT) != 0) {
                return null;
            }
            boolean marked = (letter & MARKED) != 0;
            int number = letter & 255;
            if (!answers) {
                takeData(flow, number, marked);
                return null;
            }
            int unit = flow.unitAnswered(number);
            if (unit > flow.is[Flow.SENT]) {
                return null;
            }
            if (unit > flow.is[Flow.OPEN]) {
                riseTo(flow, unit, marked);
            } else if (flow.underWay() > 0) {
                noteTwin(flow);
            }
            return flow;
        }

        private void takeData(Flow flow, int unit, boolean marked) {
            if (!flow.takeIn(unit) || flow.home.length == 0) {
                return;
            }
            flow.is[Flow.ANSWERS]++;
            int number = flow.is[Flow.HAS] & (1 << flow.bits) - 1;
            int answer = flow.number << FLOW_AT | ANSWER | number;
            come(flow.home[0], marked ? answer | MARKED : answer);
        }

        private void riseTo(Flow flow, int unit, boolean marked) {
            int answered = unit - flow.is[Flow.OPEN];
            flow.is[Flow.OPEN] = unit;
            flow.noteTrial(unit - 1, now);
            flow.is[Flow.TWINS] = 0;
            if (marked) {
                followRule(flow, Rules.MARK);
            } else {
                for (int i = 0; i < answered; i++) {
                    followRule(flow, Rules.ACK);
                }
            }
            if (flow.underWay() > 0) {
                setAlarm(flow);
            } else {
                flow.is[Flow.ALARM] = NO;
            }
        }

        private void noteTwin(Flow flow) {
            int[] is = flow.is;
            is[Flow.TWINS]++;
            if (is[Flow.TWINS] != 3) {
                return;
            }
            sendData(flow, is[Flow.OPEN]);
            if (is[Flow.OPEN] >= is[Flow.FENCE]) {
                followRule(flow, Rules.LOSS);
                is[Flow.FENCE] = is[Flow.SENT];
            }
        }

        private void ring(Flow flow) {
            int[] is = flow.is;
            now = (int) (flow.alarm >> TICK_AT);
            is[Flow.WAIT] = Math.min(MOST_WAIT, 2 * is[Flow.WAIT]);
            followRule(flow, Rules.LATE);
            is[Flow.FENCE] = is[Flow.SENT];
            is[Flow.TWINS] = 0;
            setAlarm(flow);
            sendData(flow, is[Flow.OPEN]);
        }

        private void setAlarm(Flow flow) {
            int tick = now + flow.is[Flow.WAIT];
            flow.is[Flow.ALARM] = tick;
            flow.alarm = (long) tick << TICK_AT | (long) made << MADE_AT;
            made++;
        }

        private void sendAsMay(Flow flow) {
            if (flow == null) {
                return;
            }
            for (int i = 0; i < flow.units && flow.maySend(); i++) {
                sendData(flow, flow.is[Flow.SENT]);
            }
        }

        private void sendData(Flow flow, int unit) {
            if (unit < 0 || unit >= flow.units || flow.there.length == 0) {
                return;
            }
            flow.noteSending(unit, now);
            if (!flow.hasAlarm()) {
                setAlarm(flow);
            }
            come(flow.there[0], flow.number << FLOW_AT | unit);
        }

        private void followRule(Flow flow, int text) {
            int[] is = flow.is;
            rules.tellLetters(is[Flow.ALLOWANCE], flow.latest, is[Flow.LEAST], flow.underWay(),
                    is[Flow.SMOOTH]);
            long value = rules.workOut(is[Flow.RULE], text);
            if (rules.failed) {
                is[Flow.FAILS]++;
                value = Rules.LEAST_ALLOWANCE;
            }
            is[Flow.ALLOWANCE] = (int) Math.max(Rules.LEAST_ALLOWANCE,
                    Math.min(Rules.MOST_ALLOWANCE, value));
        }
    }

    /** THE TAPE, read TOKEN by TOKEN; the one it stands at is where a FAULT would be. */
    private static final class Tape {
        static final int MOST = 600;
        private static final int FEED = 20;
        private static final int END = 0, WORD = 1, NUMBER = 2, SIGN = 3;

        private final byte[] bytes = new byte[MOST];
        int length;
        private int kind;
        int start;
        private int end;

        boolean hasRoom() {
            return length + FEED <= MOST;
        }

        void append(int four) {
            for (int bits = 24; bits >= 0 && length < MOST; bits -= 8) {
                bytes[length] = (byte) (four >> bits);
                length++;
            }
        }

        void useUp() {
            length = 0;
        }

        void rewind() {
            end = 0;
            advance();
        }

        /** Goes to the next TOKEN; the end, too, is one, behind blanks that are last. */
        void advance() {
            int at = end;
            while (at < length && (bytes[at] == ' ' || bytes[at] == '\n')) {
                at++;
            }
            start = at;
            kind = at < length ? kindOf(bytes[at]) : END;
            if (kind == SIGN) {
                at++;
            }
            while (at < length && kind != SIGN && kindOf(bytes[at]) == kind) {
                at++;
            }
            end = at;
        }

        private static int kindOf(byte b) {
            if (b >= 'a' && b <= 'z') {
                return WORD;
            }
            return b >= '0' && b <= '9' ? NUMBER : SIGN;
        }

        boolean isEnd() {
            return kind == END;
        }

        boolean isSign(char sign) {
            return kind == SIGN && start < length && bytes[start] == sign;
        }

        /** Goes past a sign, if it stands here. */
        boolean pass(char sign) {
            if (!isSign(sign)) {
                return false;
            }
            advance();
            return true;
        }

        boolean isWord(String word) {
            if (kind != WORD || end - start != word.length()) {
                return false;
            }
            for (int i = 0; i < word.length(); i++) {
                if (bytes[start + i] != word.charAt(i)) {
                    return false;
                }
            }
            return true;
        }

        /** Goes past a word, if it stands here. */
        boolean passWord(String word) {
            if (!isWord(word)) {
                return false;
            }
            advance();
            return true;
        }

        boolean isLetter(char letter) {
            return kind == WORD && end - start == 1 && bytes[start] == letter;
        }

        boolean isShortWord(int mostLetters) {
            return kind == WORD && end - start <= mostLetters;
        }

        /** A word of up to 12 letters as a number that no other such word has. */
        long wordAsNumber() {
            long all = 0;
            for (int i = start; i < end && i < length; i++) {
                all = 27 * all + bytes[i] - 'a' + 1;
            }
            return all;
        }

        boolean isNumber(int mostDigits) {
            return kind == NUMBER && end - start <= mostDigits;
        }

        long numberValue() {
            long all = 0;
            for (int i = start; i < end && i < length; i++) {
                all = 10 * all + bytes[i] - '0';
            }
            return all;
        }
    }

    /**
     * RULES: each text is turned into a row of steps that work on a stack; a step that is not below
     * 0 is a NUMBER that is laid on it.
     */
    private static final class Rules {
        static final int RULES = 6, TEXTS = 4;
        static final int ACK = 0, LOSS = 1, LATE = 2, MARK = 3;
        static final int AT_FIRST = -1;
        static final int LEAST_ALLOWANCE = 1000, MOST_ALLOWANCE = 64000;
        private static final int MOST_OPEN = 10;
        private static final int MOST_DIGITS = 6;
        /** Ten open brackets leave four values each behind them at most. */
        private static final int MOST_STACK = 64;
        private static final String LETTERS = "wtmns";
        /** The letters' steps are -1 to -5. */
        private static final int LAST_LETTER = -5;
        private static final int ADD = -6, TAKE = -7, TIMES = -8, DIVIDE = -9, REST = -10;
        private static final int LEAST = -11, GREATEST = -12, NEGATE = -13, CHOOSE = -14;
        /** w + 1000000 / w, then w / 2, then 1000; no text of its own for mark. */
        private static final int[] FIRST_STEPS = {-1, 1000000, -1, -9, -6, -1, 2, -9, 1000};
        private static final int[] FIRST_ENDS = {5, 8, 9, 9};

        private final Tape tape;
        /** Row 0 is the RULE -1 that FLOWS have at first; one without steps is not there. */
        private final int[][] steps = new int[RULES + 1][0];
        private final int[][] ends = new int[RULES + 1][TEXTS];
        private final int[] draft = new int[Tape.MOST];
        private int drafted;
        int factors;
        private final long[] letters = new long[5];
        private final long[] stack = new long[MOST_STACK];
        private int height;
        boolean failed;

        Rules(Tape tape) {
            this.tape = tape;
            steps[0] = FIRST_STEPS;
            ends[0] = FIRST_ENDS;
        }

        boolean isThere(int r) {
            return r >= AT_FIRST && r < RULES && steps[r + 1].length > 0;
        }

        /** If it answers false, the tape stands at the TOKEN at fault; the RULE is as it was. */
        boolean readRule(int r) {
            drafted = 0;
            factors = 0;
            int[] textEnds = new int[TEXTS];
            tape.rewind();
            for (int text = 0; text < TEXTS; text++) {
                boolean lacks = text == MARK && tape.isEnd();
                if (!lacks && !(tape.passWord(nameOf(text)) && tape.pass('=')
                        && readSum(0) && tape.pass(';'))) {
                    return false;
                }
                textEnds[text] = drafted;
            }
            if (!tape.isEnd() || r < 0 || r >= RULES) {
                return false;
            }
            steps[r + 1] = Arrays.copyOf(draft, drafted);
            ends[r + 1] = textEnds;
            return true;
        }

        private static String nameOf(int text) {
            switch (text) {
                case ACK:
                    return "ack";
                case LOSS:
                    return "loss";
                case LATE:
                    return "late";
                default:
                    return "mark";
            }
        }

        private void lay(int step) {
            if (drafted < draft.length) {
                draft[drafted] = step;
                drafted++;
            }
        }

        /** A sign between FACTORS waits for the next FACTOR, one between TERMS for a whole TERM. */
        private boolean readSum(int opens) {
            int betweenTerms = 0;
            int betweenFactors = 0;
            for (int i = 0; i < Tape.MOST; i++) {
                if (!readFactor(opens)) {
                    return false;
                }
                if (betweenFactors != 0) {
                    lay(betweenFactors);
                }
                betweenFactors = tape.isSign('*') ? TIMES : tape.isSign('/') ? DIVIDE
                        : tape.isSign('%') ? REST : 0;
                if (betweenFactors == 0) {
                    if (betweenTerms != 0) {
                        lay(betweenTerms);
                    }
                    betweenTerms = tape.isSign('+') ? ADD : tape.isSign('-') ? TAKE : 0;
                    if (betweenTerms == 0) {
                        return true;
                    }
                }
                tape.advance();
            }
            return false;
        }

        private boolean readFactor(int opens) {
            int plain = plainFactor();
            if (plain >= LAST_LETTER) {
                lay(plain);
                factors++;
                tape.advance();
                return true;
            }
            if (tape.isSign('-')) {
                if (opens >= MOST_OPEN) {
                    return false;
                }
                tape.advance();
                if (!readFactor(opens + 1)) {
                    return false;
                }
                lay(NEGATE);
                return true;
            }
            int call = tape.passWord("min") ? LEAST : tape.passWord("max") ? GREATEST
                    : tape.passWord("if") ? CHOOSE : 0;
            if (!readBracket(call == 0 ? 1 : call == CHOOSE ? 3 : 2, opens)) {
                return false;
            }
            if (call != 0) {
                lay(call);
            }
            return true;
        }

        /** The step of a NUMBER or letter that stands here; below all of these, if none does. */
        private int plainFactor() {
            if (tape.isNumber(MOST_DIGITS)) {
                return (int) tape.numberValue();
            }
            for (int i = 0; i < LETTERS.length(); i++) {
                if (tape.isLetter(LETTERS.charAt(i))) {
                    return -1 - i;
                }
            }
            return LAST_LETTER - 1;
        }

        private boolean readBracket(int parts, int opens) {
            if (opens >= MOST_OPEN || !tape.pass('(')) {
                return false;
            }
            for (int i = 0; i < parts; i++) {
                if (i > 0 && !tape.pass(',') || !readSum(opens + 1)) {
                    return false;
                }
            }
            return tape.pass(')');
        }

        void tellLetters(int w, int t, int m, int n, int s) {
            letters[0] = w;
            letters[1] = t;
            letters[2] = m;
            letters[3] = n;
            letters[4] = s;
        }

        /** Works a text out with the letters told last; failed says whether there was a by 0. */
        long workOut(int r, int text) {
            failed = false;
            if (!isThere(r) || text < 0 || text >= TEXTS) {
                return 0;
            }
            int[] row = steps[r + 1];
            int[] to = ends[r + 1];
            int used = text == MARK && to[MARK] == to[LATE] ? LOSS : text;
            height = 0;
            for (int i = used == 0 ? 0 : to[used - 1]; i < to[used] && i < row.length; i++) {
                int step = row[i];
                if (step >= LAST_LETTER) {
                    push(step >= 0 ? step : letters[-1 - step]);
                } else {
                    work(step);
                }
            }
            return height > 0 ? stack[0] : 0;
        }

        private void push(long value) {
            if (height < MOST_STACK) {
                stack[height] = value;
                height++;
            }
        }

        private void work(int step) {
            int needs = step == NEGATE ? 1 : step == CHOOSE ? 3 : 2;
            if (height < needs) {
                return;
            }
            height -= needs - 1;
            int at = height - 1;
            if (step == NEGATE) {
                stack[at] = -stack[at];
            } else if (step == CHOOSE) {
                stack[at] = stack[at] > 0 ? stack[at + 1] : stack[at + 2];
            } else {
                stack[at] = join(step, stack[at], stack[at + 1]);
            }
        }

        private long join(int step, long a, long b) {
            switch (step) {
                case ADD:
                    return a + b;
                case TAKE:
                    return a - b;
                case TIMES:
                    return a * b;
                case LEAST:
                    return a < b ? a : b;
                case GREATEST:
                    return a > b ? a : b;
                default:
                    break;
            }
            if (b == 0) {
                failed = true;
                return 0;
            }
            return step == DIVIDE ? a / b : a % b;
        }
    }

    /** A FORM with the values that its FIELDS were told or filled with. */
    private static final class Form {
        private static final int MOST_FIELDS = 12, MOST_BITS = 256, MOST_WIDTH = 32;
        private static final int MOST_NAME = 8, MOST_DIGITS = 10;
        private static final int FREE = 0, TOLD = 1, LEN = 2, SUM = 3;

        private final long[] names = new long[MOST_FIELDS];
        private final int[] widths = new int[MOST_FIELDS];
        private final int[] starts = new int[MOST_FIELDS];
        private final int[] kinds = new int[MOST_FIELDS];
        private final long[] values = new long[MOST_FIELDS];
        int fields;
        private int bits;

        /** If it answers false, the tape stands at the TOKEN at fault. */
        boolean readText(Tape tape) {
            tape.rewind();
            for (int i = 0; i < MOST_FIELDS && !tape.isEnd(); i++) {
                if (!readField(tape, i)) {
                    return false;
                }
                fields++;
            }
            return tape.isEnd() && bits > 0 && bits % 8 == 0;
        }

        private boolean readField(Tape tape, int i) {
            if (!tape.isShortWord(MOST_NAME) || isName(tape.wordAsNumber())) {
                return false;
            }
            names[i] = tape.wordAsNumber();
            tape.advance();
            if (!tape.pass(':') || !tape.isNumber(MOST_DIGITS)) {
                return false;
            }
            long width = tape.numberValue();
            if (width < 1 || width > MOST_WIDTH || bits + width > MOST_BITS) {
                return false;
            }
            widths[i] = (int) width;
            starts[i] = bits;
            bits += (int) width;
            tape.advance();
            return !tape.pass('=') || readTold(tape, i);
        }

        private boolean isName(long name) {
            for (int i = 0; i < fields; i++) {
                if (names[i] == name) {
                    return true;
                }
            }
            return false;
        }

        private boolean readTold(Tape tape, int i) {
            if (tape.isNumber(MOST_DIGITS) && tape.numberValue() <= mostOf(i)) {
                kinds[i] = TOLD;
                values[i] = tape.numberValue();
            } else if (tape.isWord("len")) {
                kinds[i] = LEN;
            } else if (tape.isWord("sum")) {
                kinds[i] = SUM;
            } else {
                return false;
            }
            tape.advance();
            return true;
        }

        private long mostOf(int i) {
            return (1L << widths[i]) - 1;
        }

        int bytes() {
            return bits / 8;
        }

        boolean hasField(int i) {
            return i >= 0 && i < fields;
        }

        boolean canHave(int i, long v) {
            return v >= 0 && v <= mostOf(i);
        }

        void fillField(int i, long v) {
            if (kinds[i] == FREE) {
                values[i] = v;
            }
        }

        void writeLetter(int[] letter) {
            for (int i = 0; i < fields; i++) {
                layField(letter, i, kinds[i] == LEN ? bytes() : values[i]);
            }
            for (int i = 0; i < fields; i++) {
                if (kinds[i] == SUM) {
                    layField(letter, i, sumWithout(letter, i));
                }
            }
        }

        private void layField(int[] letter, int i, long v) {
            for (int k = 0; k < widths[i]; k++) {
                int at = (starts[i] + k) / 8;
                int bit = 128 >> (starts[i] + k) % 8;
                boolean on = (v >> widths[i] - 1 - k & 1) != 0;
                if (at < letter.length) {
                    letter[at] = on ? letter[at] | bit : letter[at] & ~bit;
                }
            }
        }

        long valueIn(int[] letter, int i) {
            long v = 0;
            for (int k = 0; k < widths[i]; k++) {
                int at = (starts[i] + k) / 8;
                int bit = 128 >> (starts[i] + k) % 8;
                v = 2 * v + (at < letter.length && (letter[at] & bit) != 0 ? 1 : 0);
            }
            return v;
        }

        /** The sum that is due in a FIELD, whatever stands there. */
        private long sumWithout(int[] letter, int i) {
            long kept = valueIn(letter, i);
            layField(letter, i, 0);
            long all = 1;
            for (int k = 0; k < bytes() && k < letter.length; k++) {
                all += letter[k];
            }
            layField(letter, i, kept);
            return all & mostOf(i);
        }

        /** The first FIELD with = that has another value than told, and 1; 0 if there is none. */
        int firstWrong(int[] letter) {
            for (int i = 0; i < fields; i++) {
                if (kinds[i] != FREE && valueIn(letter, i) != valueDue(letter, i)) {
                    return i + 1;
                }
            }
            return 0;
        }

        private long valueDue(int[] letter, int i) {
            if (kinds[i] == SUM) {
                return sumWithout(letter, i);
            }
            return kinds[i] == LEN ? bytes() & mostOf(i) : values[i];
        }
    }

    /** SHARES and BOUNDS: both work in exact fractions. */
    private static final class Shares {
        static final int FLOWS = 10, TUBES = 6, SERVERS = 3;
        static final int NO_END = -1;
        private static final int NO_FLOW = -2;
        private static final int BY_WANT = -1, RISING = -2;

        final int[] wants = new int[FLOWS];
        final int[] tubes = new int[FLOWS];
        final int[] widths = new int[TUBES];
        final long[] uppers = new long[FLOWS];
        final long[] lowers = new long[FLOWS];
        final int[] holders = new int[FLOWS];
        /** The level at which a TUBE is full; its lower number is 0, if none rises in it. */
        private final long[] tubeUppers = new long[TUBES];
        private final long[] tubeLowers = new long[TUBES];
        private long levelUpper;
        private long levelLower;
        /** Of each SERVER: the rate of its rest, and T R + c. */
        final int[] restRates = new int[SERVERS];
        final int[] restWorks = new int[SERVERS];
        long sumUpper;
        long sumLower;

        Shares() {
            Arrays.fill(wants, NO_FLOW);
            Arrays.fill(widths, 100);
            Arrays.fill(restRates, 1);
        }

        boolean hasFlow(int i) {
            return i >= 0 && i < FLOWS && wants[i] != NO_FLOW;
        }

        /** Finds all FAIR shares; false, if one has no end and no TUBES. */
        boolean settle() {
            for (int i = 0; i < FLOWS; i++) {
                if (wants[i] == NO_END && tubes[i] == 0) {
                    return false;
                }
                holders[i] = hasFlow(i) ? RISING : BY_WANT;
                uppers[i] = 0;
                lowers[i] = 1;
            }
            for (int round = 0; round < FLOWS; round++) {
                findLevel();
                if (levelLower == 0) {
                    break;
                }
                stopAtLevel();
            }
            return true;
        }

        /** The next level at which one stays; its lower number is 0, if none rises any more. */
        private void findLevel() {
            levelUpper = 1;
            levelLower = 0;
            for (int i = 0; i < FLOWS; i++) {
                if (holders[i] == RISING && wants[i] != NO_END) {
                    lowerLevel(wants[i], 1);
                }
            }
            for (int t = 0; t < TUBES; t++) {
                findTubeLevel(t);
                if (tubeLowers[t] > 0) {
                    lowerLevel(tubeUppers[t], tubeLowers[t]);
                }
            }
        }

        private void lowerLevel(long upper, long lower) {
            if (upper * levelLower < levelUpper * lower) {
                levelUpper = upper;
                levelLower = lower;
            }
        }

        private void findTubeLevel(int t) {
            sumUpper = widths[t];
            sumLower = 1;
            int rising = 0;
            for (int i = 0; i < FLOWS; i++) {
                if ((tubes[i] >> t & 1) == 0) {
                    continue;
                }
                if (holders[i] == RISING) {
                    rising++;
                } else {
                    addToSum(-uppers[i], lowers[i]);
                }
            }
            tubeUppers[t] = sumUpper;
            tubeLowers[t] = sumLower * rising;
        }

        private void stopAtLevel() {
            int full = 0;
            for (int t = 0; t < TUBES; t++) {
                if (tubeLowers[t] > 0 && tubeUppers[t] * levelLower == levelUpper * tubeLowers[t]) {
                    full |= 1 << t;
                }
            }
            for (int i = 0; i < FLOWS; i++) {
                if (holders[i] != RISING) {
                    continue;
                }
                if (wants[i] != NO_END && wants[i] * levelLower == levelUpper) {
                    stay(i, BY_WANT);
                } else if ((tubes[i] & full) != 0) {
                    stay(i, lowestBit(tubes[i] & full));
                }
            }
        }

        private void stay(int i, int holder) {
            sumUpper = levelUpper;
            sumLower = levelLower;
            reduceSum();
            uppers[i] = sumUpper;
            lowers[i] = sumLower;
            holders[i] = holder;
        }

        private static int lowestBit(int set) {
            int bit = 0;
            while (bit < TUBES && (set >> bit & 1) == 0) {
                bit++;
            }
            return bit;
        }

        int leastRate(int n) {
            int least = restRates[0];
            for (int i = 1; i < n && i < SERVERS; i++) {
                least = Math.min(least, restRates[i]);
            }
            return least;
        }

        void sumDelays(int n) {
            sumUpper = 0;
            sumLower = 1;
            for (int i = 0; i < n && i < SERVERS; i++) {
                addToSum(restWorks[i], restRates[i]);
            }
        }

        void addToSum(long upper, long lower) {
            sumUpper = sumUpper * lower + upper * sumLower;
            sumLower *= lower;
            reduceSum();
        }

        void timesSum(long factor) {
            sumUpper *= factor;
            reduceSum();
        }

        private void reduceSum() {
            long a = Math.abs(sumUpper);
            long b = sumLower;
            for (int i = 0; i < 200 && b != 0; i++) {
                long rest = a % b;
                a = b;
                b = rest;
            }
            if (a > 1) {
                sumUpper /= a;
                sumLower /= a;
            }
        }
    }

    /** MENDED letters: each is one long, its bytes taken side by side. */
    private static final class Mender {
        static final int MOST_LETTERS = 6;
        private static final long HIGH_BITS = 0x8080808080808080L;
        /** x^8, less the bit that falls out. */
        private static final int FOLDED = 0x1D;

        private int letters;
        int extras;
        private long mask;
        private final long[] values = new long[MOST_LETTERS];
        private final int[][] rows = new int[MOST_LETTERS][MOST_LETTERS];
        private final long[] sums = new long[MOST_LETTERS];

        void startAnew(int k, int m, int l) {
            letters = k;
            extras = m;
            mask = l >= 8 ? -1L : (1L << 8 * l) - 1;
            Arrays.fill(values, 0);
        }

        boolean hasLetter(int i) {
            return i >= 0 && i < letters && i < MOST_LETTERS;
        }

        boolean isEnough(int set) {
            return set >= 0 && set < 1 << letters + extras && Integer.bitCount(set) == letters;
        }

        void putLetter(int i, long v) {
            values[i] = v & mask;
        }

        /** Each byte of v times a number, in the field of 256. */
        private static long timesEach(long v, int number) {
            long all = 0;
            long power = v;
            for (int bit = 0; bit < 8; bit++) {
                if ((number >> bit & 1) != 0) {
                    all ^= power;
                }
                long high = power & HIGH_BITS;
                power = (power ^ high) << 1 ^ (high >>> 7) * FOLDED;
            }
            return all;
        }

        /** One by a number: all numbers but 0 have the power 255 of 1, so it is the power 254. */
        private static int inverse(int number) {
            int all = 1;
            int power = number;
            for (int bit = 1; bit < 8; bit++) {
                power = (int) timesEach(power, power);
                all = (int) timesEach(all, power);
            }
            return all;
        }

        private static int factor(int i, int j) {
            return inverse(i ^ j + 128);
        }

        long extraLetter(int j) {
            long all = 0;
            for (int i = 0; i < letters && i < MOST_LETTERS; i++) {
                all ^= timesEach(values[i], factor(i, j));
            }
            return all;
        }

        /** Letter i by those in the set alone: as many sums as there are letters, solved. */
        long solve(int set, int i) {
            writeSums(set);
            for (int k = 0; k < letters && k < MOST_LETTERS; k++) {
                if (!bringUp(k)) {
                    return NOTHING;
                }
                makeOne(k);
                for (int r = 0; r < letters; r++) {
                    if (r != k) {
                        addTimes(r, k, rows[r][k]);
                    }
                }
            }
            return sums[i];
        }

        private void writeSums(int set) {
            int r = 0;
            for (int bit = 0; bit < letters + extras && r < MOST_LETTERS; bit++) {
                if ((set >> bit & 1) == 0) {
                    continue;
                }
                for (int i = 0; i < MOST_LETTERS; i++) {
                    rows[r][i] = bit >= letters ? factor(i, bit - letters) : i == bit ? 1 : 0;
                }
                sums[r] = bit < letters ? values[bit] : extraLetter(bit - letters);
                r++;
            }
        }

        /** Puts a row that has letter k at place k. */
        private boolean bringUp(int k) {
            int r = k;
            while (r < letters && rows[r][k] == 0) {
                r++;
            }
            if (r >= letters) {
                return false;
            }
            int[] row = rows[r];
            rows[r] = rows[k];
            rows[k] = row;
            long sum = sums[r];
            sums[r] = sums[k];
            sums[k] = sum;
            return true;
        }

        private void makeOne(int k) {
            int by = inverse(rows[k][k]);
            for (int i = 0; i < letters; i++) {
                rows[k][i] = (int) timesEach(rows[k][i], by);
            }
            sums[k] = timesEach(sums[k], by);
        }

        private void addTimes(int r, int k, int by) {
            for (int i = 0; i < letters; i++) {
                rows[r][i] ^= (int) timesEach(rows[k][i], by);
            }
            sums[r] ^= timesEach(sums[k], by);
        }
    }

    /**
     * A TRANSPORT that is TRIED. A line that holds letters x, y is one number: each behind it makes
     * it (base times itself, and x, and 1), so 0 is an empty one; a STATE is one number, too.
     */
    private static final class Transport {
        static final int MOST_UNITS = 4, MOST_NUMBERS = 3;
        private static final int THERE_CODES = 1 + MOST_UNITS + MOST_UNITS * MOST_UNITS;
        private static final int HOME_CODES = 1 + MOST_NUMBERS + MOST_NUMBERS * MOST_NUMBERS;
        private static final int UNIT_CODES = MOST_UNITS + 1;
        private static final int STATES = UNIT_CODES * UNIT_CODES * THERE_CODES * HOME_CODES;
        /** Few of all STATES are ever met: 636 at most, over all there is to try. */
        private static final int MOST_MET = 700;
        private static final int STEPS = 5, STEPS_WITH_TURNS = 7;
        private static final int STAYS = -1, BAD = -2;

        private int units;
        private int numbers;
        private int room;
        private final byte[] seen = new byte[STATES];
        private final int[] met = new int[MOST_MET];
        private final int[] from = new int[MOST_MET];
        private final byte[] byStep = new byte[MOST_MET];
        private int metCount;
        int[] badRow = new int[0];
        private int unit;
        private int givenCount;
        private int there;
        private int home;

        int tryAll(int u, int q, int c, boolean turns) {
            units = u;
            numbers = q;
            room = c;
            Arrays.fill(seen, (byte) 0);
            metCount = 0;
            badRow = new int[0];
            meet(0, -1, 0);
            for (int at = 0; at < metCount && at < MOST_MET; at++) {
                goOn(at, turns ? STEPS_WITH_TURNS : STEPS);
            }
            return metCount;
        }

        private void meet(int state, int comesFrom, int step) {
            if (state < 0 || state >= STATES || seen[state] != 0 || metCount >= MOST_MET) {
                return;
            }
            seen[state] = 1;
            met[metCount] = state;
            from[metCount] = comesFrom;
            byStep[metCount] = (byte) step;
            metCount++;
        }

        private void goOn(int at, int steps) {
            for (int step = 0; step < steps; step++) {
                unpack(met[at]);
                if (unit >= units) {
                    return;
                }
                int next = doStep(step);
                if (next == BAD && badRow.length == 0) {
                    keepBadRow(at, step);
                }
                meet(next, at, step);
            }
        }

        private void keepBadRow(int at, int lastStep) {
            int length = 1;
            for (int k = at; k > 0 && length < MOST_MET; k = from[k]) {
                length++;
            }
            badRow = new int[length];
            badRow[length - 1] = lastStep;
            int k = at;
            for (int i = length - 2; i >= 0 && k > 0; i--) {
                badRow[i] = byStep[k];
                k = from[k];
            }
        }

        private void unpack(int state) {
            home = state % HOME_CODES;
            int rest = state / HOME_CODES;
            there = rest % THERE_CODES;
            rest /= THERE_CODES;
            givenCount = rest % UNIT_CODES;
            unit = rest / UNIT_CODES;
        }

        private int packed() {
            return ((unit * UNIT_CODES + givenCount) * THERE_CODES + there) * HOME_CODES + home;
        }

        /** The STATE behind a step from the one unpacked, or STAYS, or BAD. */
        private int doStep(int step) {
            boolean usesThere = step == 1 || step == 3 || step == 5;
            boolean usesHome = step == 2 || step == 4 || step == 6;
            if (usesThere && there == 0 || usesHome && home == 0) {
                return STAYS;
            }
            int first = usesThere ? firstIn(there, units) : usesHome ? firstIn(home, numbers) : 0;
            if (usesThere) {
                there = withoutFirst(there, units);
            } else if (usesHome) {
                home = withoutFirst(home, numbers);
            }
            if (step == 0) {
                if (lengthOf(there, units) >= room) {
                    return STAYS;
                }
                there = withLast(there, units, unit);
            } else if (step == 1) {
                return takeLetter(first) ? packed() : BAD;
            } else if (step == 2) {
                unit += first == unit % numbers ? 1 : 0;
            } else if (step == 5) {
                there = withLast(there, units, first);
            } else if (step == 6) {
                home = withLast(home, numbers, first);
            }
            return packed();
        }

        /** Answers whether no UNIT was GIVEN out of its row. */
        private boolean takeLetter(int sent) {
            int number = sent % numbers;
            if (number == givenCount % numbers) {
                if (sent != givenCount) {
                    return false;
                }
                givenCount++;
            }
            if (lengthOf(home, numbers) < room) {
                home = withLast(home, numbers, number);
            }
            return true;
        }

        private static int lengthOf(int held, int base) {
            return held == 0 ? 0 : held <= base ? 1 : 2;
        }

        private static int withLast(int held, int base, int x) {
            return held * base + x + 1;
        }

        private static int firstIn(int held, int base) {
            return held <= base || base < 1 ? held - 1 : (held - 1) / base - 1;
        }

        private static int withoutFirst(int held, int base) {
            return held <= base || base < 1 ? 0 : (held - 1) % base + 1;
        }
    }

    /** A FILM: the best row of grades is found from its end, for each FULL there may be. */
    private static final class Film {
        static final int PIECES = 12, GRADES = 4;
        static final int MOST_FULL = 400;
        private static final int STALLS = -1;

        private final int[] sizes = new int[PIECES * GRADES];
        private final int[] worths = new int[PIECES * GRADES];
        final int[] speeds = new int[PIECES];
        final int[] grades = new int[PIECES];
        int found;
        private final int[] ticks = new int[GRADES];
        private final byte[] choices = new byte[PIECES * (MOST_FULL + 1)];
        /** The greatest WORTHS from a piece on, by FULL ahead of it; and from the next one on. */
        private int[] best = new int[MOST_FULL + 1];
        private int[] bestBehind = new int[MOST_FULL + 1];

        Film() {
            Arrays.fill(sizes, 1);
            Arrays.fill(speeds, 1);
        }

        void tellPiece(int i, int grade, int size, int worth) {
            sizes[i * GRADES + grade] = size;
            worths[i * GRADES + grade] = worth;
        }

        int find(int n, int b, int most, int length) {
            Arrays.fill(best, 0);
            for (int i = n - 1; i >= 0; i--) {
                int[] behind = best;
                best = bestBehind;
                bestBehind = behind;
                for (int g = 0; g < GRADES; g++) {
                    ticks[g] = dividedUp(sizes[i * GRADES + g], speeds[i]);
                }
                for (int full = 0; full <= most && full <= MOST_FULL; full++) {
                    choose(i, full, most, length);
                }
            }
            if (best[b] == STALLS) {
                return NO;
            }
            keepGrades(n, b, most, length);
            return best[b];
        }

        /** The least grade of the best ones, so that the row, too, is the least one. */
        private void choose(int i, int full, int most, int length) {
            best[full] = STALLS;
            for (int g = 0; g < GRADES; g++) {
                if (ticks[g] > full) {
                    continue;
                }
                int later = bestBehind[Math.min(most, full - ticks[g] + length)];
                int all = later == STALLS ? STALLS : later + worths[i * GRADES + g];
                if (all > best[full]) {
                    best[full] = all;
                    choices[i * (MOST_FULL + 1) + full] = (byte) g;
                }
            }
        }

        private void keepGrades(int n, int b, int most, int length) {
            int full = b;
            for (int i = 0; i < n && i < PIECES && full >= 0; i++) {
                int g = choices[i * (MOST_FULL + 1) + full];
                grades[i] = g;
                full -= dividedUp(sizes[i * GRADES + g], speeds[i]);
                full = Math.min(most, full + length);
            }
            found = n;
        }
    }

    /**
     * The STORE. Shelves with the same cells share one row of them; a cell of ENDS has a HOST's
     * NUMBER, or -1.
     */
    private static final class Store {
        static final int SHELVES = 8, MOST_CELLS = 40, MOST_HOSTS = 400, STAIRS = 8;
        static final int BYTES = 1, INTS = 2, LONGS = 3, ENDS = 4, MAIL_ENDS = 5, HOST = 6;
        static final int TYPE_MAIL = 7;
        static final int PLAIN = 0, MAIL = 1, SAFE_MAIL = 2;
        static final int IS_NOTHING = 1, BAD_CAST = 2, BAD_INDEX = 3, BAD_STORE = 4, BAD_LENGTH = 5;
        private static final int NO_HOST = -1;
        private static final int MAIL_STAMPS = 3;

        final int[] kinds = new int[SHELVES];
        final long[][] cells = new long[SHELVES][0];
        private final int[] hosts = new int[SHELVES];
        private final byte[] hostKinds = new byte[MOST_HOSTS];
        int hostsMade;
        final int[] entered = new int[STAIRS];
        final int[] left = new int[STAIRS];

        boolean hasShelf(int shelf) {
            return shelf >= 0 && shelf < SHELVES;
        }

        int putCells(int shelf, int kind, int n) {
            long[] row = new long[Math.max(n, 0)];
            if (kind == ENDS || kind == MAIL_ENDS) {
                Arrays.fill(row, NO_HOST);
            }
            kinds[shelf] = kind;
            cells[shelf] = row;
            return 1;
        }

        int putHost(int shelf, int kind) {
            if (hostsMade >= MOST_HOSTS) {
                return FULL;
            }
            hostKinds[hostsMade] = (byte) kind;
            kinds[shelf] = HOST;
            hosts[shelf] = hostsMade;
            hostsMade++;
            return hosts[shelf];
        }

        int putSame(int shelf, int from) {
            if (!hasShelf(from)) {
                kinds[shelf] = 0;
                return 0;
            }
            kinds[shelf] = kinds[from];
            cells[shelf] = cells[from];
            hosts[shelf] = hosts[from];
            return kinds[shelf];
        }

        boolean isOf(int shelf, int type) {
            int kind = kinds[shelf];
            if (type == TYPE_MAIL) {
                return kind == HOST && isMail(hosts[shelf]);
            }
            return kind != 0 && kind == type || type == ENDS && kind == MAIL_ENDS;
        }

        private boolean isMail(long number) {
            return number >= 0 && number < hostsMade && hostKinds[(int) number] != PLAIN;
        }

        /** Nothing may be CAST to each TYPE, so it is found out only as it is used. */
        int castFault(int shelf, int type) {
            if (kinds[shelf] == 0) {
                return IS_NOTHING;
            }
            return isOf(shelf, type) ? 0 : BAD_CAST;
        }

        int cellFault(int shelf, int type, int i) {
            int fault = castFault(shelf, type);
            return fault == 0 && !hasCells(shelf, i, 1) ? BAD_INDEX : fault;
        }

        boolean hasCells(int shelf, int at, int n) {
            return at >= 0 && n >= 0 && (long) at + n <= cells[shelf].length;
        }

        /** The NUMBER of the HOST that a shelf holds, or NO_HOST. */
        int hostOn(int shelf) {
            return kinds[shelf] == HOST ? hosts[shelf] : NO_HOST;
        }

        int seatFault(int shelf, int i, int other) {
            int fault = castFault(shelf, ENDS);
            if (fault == BAD_CAST || castFault(other, HOST) == BAD_CAST) {
                return BAD_CAST;
            }
            if (fault != 0) {
                return fault;
            }
            if (!hasCells(shelf, i, 1)) {
                return BAD_INDEX;
            }
            return takes(shelf, hostOn(other)) ? 0 : BAD_STORE;
        }

        private boolean takes(int shelf, long number) {
            return kinds[shelf] != MAIL_ENDS || number == NO_HOST || isMail(number);
        }

        int shiftFault(int shelf, int other) {
            int kind = kinds[shelf];
            int otherKind = kinds[other];
            if (kind == 0 || otherKind == 0) {
                return IS_NOTHING;
            }
            boolean bothEnds = isOf(shelf, ENDS) && isOf(other, ENDS);
            return kind != HOST && (kind == otherKind || bothEnds) ? 0 : BAD_STORE;
        }

        /** Two rows of unlike kinds are never the same one, so only these are looked at by cell. */
        int copyCells(int shelf, int at, int other, int to, int n) {
            long[] source = cells[shelf];
            long[] target = cells[other];
            if (kinds[shelf] == kinds[other]) {
                System.arraycopy(source, at, target, to, n);
                return 0;
            }
            for (int i = 0; i < n; i++) {
                if (!takes(other, source[at + i])) {
                    return BAD_STORE;
                }
                target[to + i] = source[at + i];
            }
            return 0;
        }

        int costOf(int number) {
            if (number < 0 || number >= hostsMade) {
                return 0;
            }
            int plain = 10 + number;
            int kind = hostKinds[number];
            return kind == PLAIN ? plain : kind == MAIL ? 2 * plain : 2 * plain + 5;
        }

        int stampsOf(int number) {
            boolean safe = isMail(number) && hostKinds[number] == SAFE_MAIL;
            return safe ? 3 * MAIL_STAMPS - 2 : MAIL_STAMPS;
        }

        void goUpAndDown(int n) {
            for (int k = 0; k < n && k < STAIRS; k++) {
                entered[k]++;
                left[k]++;
            }
        }

        /** The FAULT of asking the STAMPS of the HOST in a shelf's first cell. */
        int stampFault(int shelf) {
            int fault = cellFault(shelf, ENDS, 0);
            if (fault != 0) {
                return fault;
            }
            long number = cells[shelf][0];
            if (number == NO_HOST) {
                return IS_NOTHING;
            }
            return isMail(number) ? 0 : BAD_CAST;
        }
    }
}
