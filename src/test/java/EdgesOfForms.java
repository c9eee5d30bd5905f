/** The document's edges of FORMS and THE LETTER: Terms 4, Promises 15 to 21. */
final class EdgesOfForms {
    private static final long NOTHING = FlowHouse.NOTHING;
    private static final int UNKNOWN = FlowHouse.UNKNOWN;
    private static final int OUTSIDE = FlowHouse.OUTSIDE;
    private static final Scene BUSY = Busy.SCENE;

    private EdgesOfForms() {
    }

    static void all() {
        unknown();
        fields();
        bits();
        digits();
        names();
        together();
        told();
        endsTooEarly();
        stays();
        fill();
        fillCounts();
        letter();
        lengths();
        sums();
        octet();
        cut();
        check();
        fieldOf();
    }

    private static void unknown() {
        Document.term(4, "FORMS 0 .. 3:");
        Document.promise(15, "THE TAPE is FORM f: how many FIELDS. UNKNOWN: f;");
        for (int f : new int[] {-1, 4, -2, 5, 256, Integer.MIN_VALUE, Integer.MAX_VALUE}) {
            BUSY.refusesText("a:8 b:8", x -> x.form(f), UNKNOWN);
            BUSY.refusesText("UNKNOWN is ahead of FAULTS", x -> x.form(f), UNKNOWN);
        }
        for (int f = 0; f <= 3; f++) {
            FlowHouse x = new FlowHouse();
            Due.same("form(" + f + ")", Due.form(x, f, "a:8 b:8"), 2);
            Due.same("THE TAPE is used up", x.count(5), 0);
            for (int other = 0; other <= 3; other++) {
                Due.same("just that one", x.letter(other), other == f ? 2 : UNKNOWN);
            }
        }
    }

    private static void good(String text, int fields) {
        FlowHouse x = new FlowHouse();
        Due.same("form of " + text, Due.form(x, 3, text), fields);
    }

    private static void fault(String text, int place) {
        BUSY.refusesText(text, x -> x.form(0), -10 - place);
        FlowHouse x = new FlowHouse();
        Due.same("form of " + text, Due.form(x, 3, text), -10 - place);
        Due.same("no FORM", x.letter(3), UNKNOWN);
    }

    /** FIELDS a, b, .. of so many bits each. */
    private static String row(int fields, int bits) {
        StringBuilder text = new StringBuilder();
        for (int i = 0; i < fields; i++) {
            text.append((char) ('a' + i)).append(':').append(bits).append(' ');
        }
        return text.toString();
    }

    private static void fields() {
        Document.term(4, "FIELDS (1 to 12),");
        Document.term(4, "the thirteenth;");
        fault("", 0);
        fault(" ", 1);
        good(row(1, 8), 1);
        good(row(12, 8), 12);
        fault(row(13, 8), 48);
        fault(row(12, 8) + "8", 48);
        fault(row(12, 8) + "a:8", 48);
        good(row(12, 8) + " \n", 12);
    }

    private static void bits() {
        Document.term(4, "each NAME : NUMBER (bits, 1 to 32),");
        Document.term(4, "FAULT as above (also: bits 0, above 32;");
        good("a:1 b:7", 2);
        good("a:32", 1);
        fault("a:0", 2);
        fault("a:0 b:8", 2);
        fault("a:8 b:0", 6);
        fault("a:33", 2);
        fault("a:40", 2);
        fault("a:33 b:7", 2);
        fault("a:9999999999", 2);
        fault("a:4294967296", 2);
        fault("a:4294967304", 2);
        fault("a:-8", 2);
    }

    private static void digits() {
        Document.term(4, "perhaps = NUMBER, or = len, or = sum (NUMBERS here have 1 to 10 digits).");
        good("a:0000000008", 1);
        fault("a:00000000008", 2);
        good("a:8=0000000255", 1);
        fault("a:8=00000000255", 4);
        good("a:32=4294967295", 1);
        fault("a:8=", 4);
        fault("a: =8", 3);
        fault("a:8=b", 4);
        fault("a:8=le", 4);
        fault("a:8=lens", 4);
        fault("a:8=su", 4);
        fault("a:8=sums", 4);
        fault("a:8=1=1", 5);
        fault("a:8 8", 4);
        good("a:8=len", 1);
        good("a:8=sum", 1);
    }

    private static void names() {
        Document.term(4, "NAMES are any rows of 1 to 8 letters a .. z, none twice (8b is two TOKENS).");
        Document.term(4, "a NAME again;");
        good("a:8", 1);
        good("z:8", 1);
        good("abcdefgh:8", 1);
        fault("abcdefghi:8", 0);
        fault("abcdefghabcdefgh:8", 0);
        fault(":8", 0);
        fault("A:8", 0);
        fault("`:8", 0);
        fault("{:8", 0);
        fault("_:8", 0);
        fault("a8:8", 1);
        fault("8a:8", 0);
        good("len:8 sum:8=len a:8=sum", 3);
        good("ack:8 w:8", 2);
        good("a:8b:8", 2);
        good("a:8=8b:8", 2);
        fault("a:8 a:8", 4);
        fault("a:8 b:8 c:8 b:8 c:8", 12);
        fault("abcdefgh:8 abcdefgh:8", 11);
        good("abcdefgh:8 abcdefgg:8 abcdefg:8 bbcdefgh:8", 4);
        good("a:8 aa:8 aaa:8 aaaa:8 aaaaa:8 aaaaaa:8 aaaaaaa:8 aaaaaaaa:8", 8);
        good("ab:8 ba:8 abc:8 cab:8 bac:8 az:8 b:8 za:8", 8);
        fault("a:8 a", 4);
        fault("a:8=len len:8 len:8", 14);
    }

    private static void together() {
        Document.term(4, "Together 8 to 256 bits, a multiple of 8.");
        Document.term(4, "256 passed: its bits' NUMBER; not a multiple of 8: the end).");
        good("a:8", 1);
        fault("a:7", 3);
        fault("a:1", 3);
        fault("a:9", 3);
        fault("a:8 b:1", 7);
        fault("a:4 b:3  ", 9);
        good("a:4 b:4", 2);
        good(row(8, 32), 8);
        good(row(7, 32) + "h:31 i:1", 9);
        fault(row(8, 32) + "i:1", 42);
        fault(row(8, 32) + "i:8=1", 42);
        fault(row(7, 32) + "h:31 i:2", 42);
        fault(row(12, 32), 42);
        fault(row(7, 32) + "h:31", 39);
        fault(row(8, 32) + "i", 41);
    }

    private static void told() {
        Document.term(4, "a NUMBER told that its bits can't have;");
        good("a:1=0 b:7", 2);
        good("a:1=1 b:7", 2);
        fault("a:1=2 b:7", 4);
        good("a:8=255", 1);
        fault("a:8=256", 4);
        good("a:31=2147483647 b:1", 2);
        fault("a:31=2147483648 b:1", 5);
        good("a:32=4294967295", 1);
        fault("a:32=4294967296", 5);
        fault("a:32=9999999999", 5);
        fault("a:8=-1", 4);
    }

    private static void endsTooEarly() {
        String whole = "abc:4=5 b:4 len:8=len d:16=sum";
        for (int end = 0; end < whole.length(); end++) {
            boolean inWord = end > 0 && Character.isLetter(whole.charAt(end)) && Character.isLetter(whole.charAt(end - 1));
            String text = whole.substring(0, end);
            if (!inWord && !text.matches(".*b:4 ?|.*:8 ?|.*=len ?|.*:16")) {
                fault(text, end);
            }
        }
        fault("abc:4=5 b:4 len:8=l", 18);
        good(whole, 4);
    }

    private static void stays() {
        Document.promise(15, "a FAULT (the FORM stays).");
        FlowHouse x = new FlowHouse();
        Due.form(x, 1, "a:8=3 b:8");
        x.fill(1, 1, 77);
        for (String text : new String[] {"", "c:8 d:7", "c:8 d", "c:8 c:8"}) {
            Due.yes(text, Due.form(x, 1, text) <= -10);
        }
        Due.same("it stays", x.letter(1), 2);
        Due.same("as it was told", x.octet(0, 0), 3);
        Due.same("as it was filled", x.octet(1, 0), 77);
    }

    private static void fill() {
        Document.promise(16, "UNKNOWN; OUTSIDE: its bits can't have it (without sign).");
        BUSY.outside("fill's FORM", (x, v) -> x.fill(v, 0, 1), 0, 3, UNKNOWN);
        BUSY.refuses("no FORM 1", x -> x.fill(1, 0, 0), UNKNOWN);
        BUSY.outside("fill's field", (x, v) -> x.fill(0, v, 1), 0, 3, UNKNOWN);
        BUSY.outside("fill's field", (x, v) -> x.fill(2, v, 1), 0, 1, UNKNOWN);
        BUSY.refuses("UNKNOWN is ahead of OUTSIDE", x -> x.fill(0, 4, -1), UNKNOWN);
        for (int width = 1; width <= 32; width++) {
            String text = "a:" + width + " b:" + (8 - width % 8);
            Scene form = new Scene("a field of " + width, x -> Due.form(x, 0, text));
            long most = (1L << width) - 1;
            form.answers("0", x -> x.fill(0, 0, 0), 1);
            form.answers("the most", x -> x.fill(0, 0, most), 1);
            for (long v : new long[] {most + 1, -1, -most, -most - 1, Long.MIN_VALUE, Long.MAX_VALUE, 1L << 32, 1L << 40}) {
                form.refuses("fill " + v, x -> x.fill(0, 0, v), OUTSIDE);
            }
        }
        BUSY.refuses("also where = is told", x -> x.fill(0, 0, 16), OUTSIDE);
        BUSY.refuses("also where = is told", x -> x.fill(0, 2, 256), OUTSIDE);
    }

    private static void fillCounts() {
        Document.promise(16, "till it gets another one (0 at first, and when the FORM is new; where = is told it counts for "
                + "nothing): 1.");
        BUSY.refuses("counts for nothing: a number", x -> x.fill(0, 0, 9), 1);
        BUSY.refuses("counts for nothing: len", x -> x.fill(0, 2, 9), 1);
        BUSY.refuses("counts for nothing: sum", x -> x.fill(0, 3, 9), 1);
        FlowHouse x = new FlowHouse();
        Due.form(x, 0, "a:8 b:8");
        x.letter(0);
        Due.same("0 at first", x.octet(0, 0) + x.octet(1, 0), 0);
        x.fill(0, 0, 200);
        Due.same("THE LETTER stays", x.octet(0, 0), 0);
        x.letter(0);
        x.letter(0);
        Due.same("till it gets another one", x.octet(0, 0), 200);
        x.fill(0, 0, 0);
        x.letter(0);
        Due.same("another one", x.octet(0, 0), 0);
        x.fill(0, 1, 9);
        Due.form(x, 0, "a:8 b:8");
        x.letter(0);
        Due.same("0 when the FORM is new", x.octet(1, 0), 0);
    }

    private static void letter() {
        Document.promise(17, "(FIELDS with = as told there; sums are 0 first, then each is laid, in row): how many bytes. "
                + "UNKNOWN.");
        BUSY.outside("letter's FORM", (x, v) -> x.letter(v), 0, 3, UNKNOWN);
        BUSY.refuses("no FORM 1", x -> x.letter(1), UNKNOWN);
        BUSY.refuses("no FORM 3", x -> x.letter(3), UNKNOWN);
        FlowHouse x = new FlowHouse();
        Due.form(x, 0, "a:8");
        Due.same("the shortest", x.letter(0), 1);
        Due.form(x, 0, row(7, 32) + "h:32=4294967295");
        Due.same("the longest", x.letter(0), 32);
        Due.same("its end", x.octet(27, 0) * 1000 + x.octet(31, 0), 255);
        Due.same("count(6)", x.count(6), 32);
        Due.form(x, 1, "a:1=1 b:6=0 c:2=3 d:7=0");
        x.letter(1);
        Due.same("the highest first", x.octet(0, 0), 129);
        Due.same("over the end of a byte", x.octet(1, 0), 128);
        Due.same("count(6)", x.count(6), 2);
    }

    private static void lengths() {
        Document.term(4, "len: how many bytes it has (those bits' lowest);");
        for (int width = 1; width <= 8; width++) {
            FlowHouse x = new FlowHouse();
            Due.form(x, 0, row(7, 32) + "h:" + (24 - width) + " i:" + width + "=len");
            Due.same("31 bytes", x.letter(0), 31);
            Due.same("lowest bits of 31", x.fieldOf(0, 8), 31 & (1 << width) - 1);
            Due.same("check", x.check(0), 0);
            FlowHouse y = new FlowHouse();
            Due.form(y, 0, row(7, 32) + "h:" + (32 - width) + " i:" + width + "=len");
            Due.same("32 bytes", y.letter(0), 32);
            Due.same("lowest bits of 32", y.fieldOf(0, 8), 32 & (1 << width) - 1);
            Due.same("check", y.check(0), 0);
        }
    }

    private static void sums() {
        Document.term(4, "sum: the sum of all its bytes, its own bits being 0, and 1 (lowest).");
        int[][] due = {{0, 1}, {253, 254}, {254, 255}, {255, 0}};
        for (int[] d : due) {
            FlowHouse x = new FlowHouse();
            Due.form(x, 0, "a:8=" + d[0] + " s:8=sum");
            x.letter(0);
            Due.same("sum of " + d[0], x.fieldOf(0, 1), d[1]);
            Due.same("check", x.check(0), 0);
            FlowHouse y = new FlowHouse();
            Due.form(y, 0, "a:8=" + d[0] + " s:16=sum");
            y.letter(0);
            Due.same("sum of " + d[0], y.fieldOf(0, 1), d[0] + 1);
        }
        FlowHouse x = new FlowHouse();
        Due.form(x, 0, "s:32=sum " + row(7, 32));
        for (int i = 1; i < 8; i++) {
            x.fill(0, i, 4294967295L);
        }
        x.letter(0);
        Due.same("the greatest", x.fieldOf(0, 0), 28 * 255 + 1);
        Due.form(x, 0, "a:7=127 s:1=sum");
        x.letter(0);
        Due.same("254 and 1, lowest", x.fieldOf(0, 1), 1);
        Due.form(x, 0, "a:4=15 s:4=sum b:8");
        x.letter(0);
        Due.same("its own bits are 0, not those by its side", x.fieldOf(0, 1), 240 + 1 & 15);
        Due.form(x, 0, "s:8=sum t:8=sum u:8=sum");
        x.letter(0);
        int[] row = {1, 2, 4};
        for (int i = 0; i < 3; i++) {
            Due.same("each laid, in row", x.fieldOf(0, i), row[i]);
        }
        Due.same("so the first has another value by then", x.check(0), 1);
    }

    private static void octet() {
        Document.promise(18, "Byte i of THE LETTER xor mask becomes it: what it is then. UNKNOWN; OUTSIDE: mask 0 .. 255.");
        BUSY.outside("octet's i", (x, v) -> x.octet(v, 1), 0, 3, UNKNOWN);
        BUSY.outside("octet's mask", (x, v) -> x.octet(0, v), 0, 255, OUTSIDE);
        BUSY.refuses("UNKNOWN is ahead of OUTSIDE", x -> x.octet(4, 256), UNKNOWN);
        BUSY.refuses("mask 0 changes nothing", x -> x.octet(1, 0), 4 ^ 1);
        BUSY.answers("mask 255", x -> x.octet(0, 255), 0x59 ^ 255);
        BUSY.answers("the last byte", x -> x.octet(3, 0), 0x59 + 4 + 1);
        Scene.empty().outside("octet of no LETTER", (x, v) -> x.octet(v, 0), 0, -1, UNKNOWN);
        FlowHouse x = new FlowHouse();
        x.cut(40);
        Due.same("byte 39", x.octet(39, 255), 255);
        Due.same("byte 40", x.octet(40, 255), UNKNOWN);
    }

    private static void cut() {
        Document.promise(19, "THE LETTER keeps n bytes (more: 0 behind; 0 .. 40): 1. OUTSIDE.");
        BUSY.outside("cut", (x, v) -> x.cut(v), 0, 40, OUTSIDE);
        BUSY.refuses("as many as it has", x -> x.cut(4), 1);
        FlowHouse x = BUSY.made();
        Due.same("fewer", x.cut(1), 1);
        Due.same("count(6)", x.count(6), 1);
        Due.same("more", x.cut(40), 1);
        Due.same("the first stays", x.octet(0, 0), 0x59);
        for (int i = 1; i < 40; i++) {
            Due.same("0 behind", x.octet(i, 255), 255);
        }
        Due.same("none", x.cut(0), 1);
        Due.same("count(6)", x.count(6), 0);
        Due.same("no byte", x.octet(0, 0), UNKNOWN);
        Due.same("more", x.cut(40), 1);
        for (int i = 0; i < 40; i++) {
            Due.same("0 again", x.octet(i, 0), 0);
        }
    }

    private static void check() {
        Document.term(4, "CHECK of bytes: -1 they are fewer, or more, than the FORM has; else the first FIELD with = that has "
                + "another value than told, and 1 (0: none).");
        Document.promise(20, "CHECK of THE LETTER by a FORM. UNKNOWN.");
        BUSY.outside("check's FORM", (x, v) -> x.check(v), 0, 3, UNKNOWN);
        BUSY.refuses("no FORM 1", x -> x.check(1), UNKNOWN);
        Scene letter = new Scene("a letter", x -> {
            Due.form(x, 0, "a:8=1 b:8 c:8=len d:8=sum");
            x.letter(0);
        });
        letter.refuses("none", x -> x.check(0), 0);
        letter.answers("1 fewer", x -> x.cut(3) * x.check(0), -1);
        letter.answers("1 more", x -> x.cut(5) * x.check(0), -1);
        letter.answers("none at all", x -> x.cut(0) * x.check(0), -1);
        letter.answers("the most", x -> x.cut(40) * x.check(0), -1);
        letter.answers("as many again", x -> x.cut(40) * x.cut(4) * x.check(0), 0);
        letter.answers("the first", x -> 0 * x.octet(0, 128) + x.check(0), 1);
        letter.answers("the first of several", x -> 0 * (x.octet(0, 1) + x.octet(2, 1) + x.octet(3, 1)) + x.check(0), 1);
        letter.answers("len", x -> 0 * x.octet(2, 1) + x.check(0), 3);
        letter.answers("sum", x -> 0 * x.octet(3, 1) + x.check(0), 4);
        letter.answers("sum, by a FIELD without =", x -> 0 * x.octet(1, 1) + x.check(0), 4);
        FlowHouse x = new FlowHouse();
        Due.form(x, 0, "a:8");
        x.cut(1);
        x.octet(0, 99);
        Due.same("no FIELD with =", x.check(0), 0);
    }

    private static void fieldOf() {
        Document.promise(21, "Field i of a FORM in THE LETTER. NOTHING: no such one, or CHECK is -1.");
        BUSY.outside("fieldOf's FORM", (x, v) -> x.fieldOf(v, 0), 0, 3, NOTHING);
        BUSY.refuses("no FORM 1", x -> x.fieldOf(1, 0), NOTHING);
        BUSY.outside("fieldOf's i", (x, v) -> x.fieldOf(0, v), 0, 3, NOTHING);
        BUSY.refuses("CHECK is -1: more", x -> x.fieldOf(2, 0), NOTHING);
        BUSY.answers("CHECK is -1: fewer", x -> 0 * x.cut(3) + x.fieldOf(0, 0), NOTHING);
        BUSY.answers("CHECK is not 0, but not -1", x -> 0 * x.octet(0, 16) + x.fieldOf(0, 0), 4);
        BUSY.answers("the last one", x -> x.fieldOf(0, 3), 0x59 + 4 + 1);
        FlowHouse x = new FlowHouse();
        Due.form(x, 0, "a:32");
        x.cut(4);
        for (int i = 0; i < 4; i++) {
            x.octet(i, 255);
        }
        Due.same("without sign", x.fieldOf(0, 0), 4294967295L);
    }
}
