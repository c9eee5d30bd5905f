import java.math.BigInteger;
import java.util.Random;

/** Promises 15 to 21: form, fill, letter, octet, cut, check, fieldOf. */
public final class FormsTest {
    private static final long NOTHING = FlowHouse.NOTHING;

    public static void main(String[] args) {
        faults();
        good();
        fill();
        letter();
        sums();
        octetAndCut();
        checks();
        anew();
        for (int seed = 0; seed < 3000; seed++) {
            randomForm(new Random(seed));
        }
        Due.end("FormsTest");
    }

    private static void fault(String text, int place) {
        FlowHouse x = new FlowHouse();
        Due.same("form of " + text, Due.form(x, 3, text), -10 - place);
        Due.same("used up", x.count(5), 0);
        Due.same("no form", x.letter(3), FlowHouse.UNKNOWN);
    }

    private static void faults() {
        fault("", 0);
        fault(" \n ", 3);
        fault("a", 1);
        fault("a ", 2);
        fault("a:", 2);
        fault("a:8 b", 5);
        fault("a:8 b:", 6);
        fault("a:0", 2);
        fault("a:00", 2);
        fault("a:33", 2);
        fault("a:4294967304", 2);
        fault("a:00000000008", 2);
        fault("a:b", 2);
        fault("a=8", 1);
        fault(":8", 0);
        fault("8:8", 0);
        fault("8b:8", 0);
        fault("a:8b", 4);
        fault("a:8b:", 5);
        fault("A:8", 0);
        fault("abcdefghi:8", 0);
        fault("a:8 b:8 a:8", 8);
        fault("a:8=", 4);
        fault("a:8=256", 4);
        fault("a:1=2 b:7", 4);
        fault("a:32=4294967296", 5);
        fault("a:8=00000000001", 4);
        fault("a:8=lens", 4);
        fault("a:8=a", 4);
        fault("a:8==5", 4);
        fault("a:8=5=5", 5);
        fault("a:8=-1", 4);
        fault("a:8;", 3);
        fault("a:8,b:8", 3);
        fault("a:7", 3);
        fault("a:9 ", 4);
        fault("a:8 b:4 c:3", 11);
        fault("a:1 b:1 c:1 d:1 e:1 f:1 g:1 h:1 i:1 j:1 k:1 l:1 m:4", 48);
        fault("a:1 b:1 c:1 d:1 e:1 f:1 g:1 h:1 i:1 j:1 k:1 l:1 :", 48);
        fault("a:1 b:1 c:1 d:1 e:1 f:1 g:1 h:1 i:1 j:1 k:1 l:1 ", 48);
        fault("a:32 b:32 c:32 d:32 e:32 f:32 g:32 h:31 i:2", 42);
        fault("a:32 b:32 c:32 d:32 e:32 f:32 g:32 h:32 i:8=1", 42);
        FlowHouse x = new FlowHouse();
        Due.same("form", x.form(-1), FlowHouse.UNKNOWN);
        Due.same("form", x.form(4), FlowHouse.UNKNOWN);
    }

    private static void good() {
        FlowHouse x = new FlowHouse();
        Due.same("form", Due.form(x, 0, "len:8=len sum:8=sum abcdefgh:8"), 3);
        Due.same("form", Due.form(x, 1, "a:1=1b:7=127c:0000000008=0000000255"), 3);
        Due.same("form", Due.form(x, 2, "\na : 32\n= 4294967295 "), 1);
        Due.same("form", Due.form(x, 3,
                "a:32 b:32 c:32 d:32 e:32 f:32 g:32 h:1 i:2 j:4 k:8 l:17=131071"), 12);
        Due.same("letter", x.letter(3), 32);
        Due.same("form", Due.form(x, 3, "x:4 xx:2 xxx:1 y:1"), 4);
        Due.same("form", Due.form(x, 3, "ab:4 ba:2 a:1 b:1 abcdefgh:4 abcdefhg:2 bbcdefgh:2"), 7);
    }

    private static void fill() {
        FlowHouse x = new FlowHouse();
        Due.same("fill", x.fill(0, 0, 0), FlowHouse.UNKNOWN);
        Due.form(x, 0, "a:3 b:5=9 c:32 d:8=len");
        Due.same("fill", x.fill(0, 0, 7), 1);
        Due.same("fill", x.fill(0, 0, 8), FlowHouse.OUTSIDE);
        Due.same("fill", x.fill(0, 0, -1), FlowHouse.OUTSIDE);
        Due.same("fill", x.fill(0, 1, 31), 1);
        Due.same("fill", x.fill(0, 1, 32), FlowHouse.OUTSIDE);
        Due.same("fill", x.fill(0, 2, 4294967295L), 1);
        Due.same("fill", x.fill(0, 2, 4294967296L), FlowHouse.OUTSIDE);
        Due.same("fill", x.fill(0, 2, Long.MIN_VALUE), FlowHouse.OUTSIDE);
        Due.same("fill", x.fill(0, 3, 255), 1);
        Due.same("fill", x.fill(0, 4, 0), FlowHouse.UNKNOWN);
        Due.same("fill", x.fill(0, -1, 0), FlowHouse.UNKNOWN);
        Due.same("fill: unknown is ahead", x.fill(1, 0, -1), FlowHouse.UNKNOWN);
        Due.same("fill", x.fill(-1, 0, 0), FlowHouse.UNKNOWN);
        Due.same("fill", x.fill(4, 0, 0), FlowHouse.UNKNOWN);
        Due.same("letter", x.letter(0), 6);
        long[] due = {7, 9, 4294967295L, 6};
        for (int i = 0; i < 4; i++) {
            Due.same("fieldOf " + i, x.fieldOf(0, i), due[i]);
        }
        x.fill(0, 0, 1);
        Due.same("the letter as it was", x.fieldOf(0, 0), 7);
        x.letter(0);
        Due.same("the new one", x.fieldOf(0, 0), 1);
        Due.same("till it gets another", x.fieldOf(0, 2), 4294967295L);
    }

    private static void letter() {
        FlowHouse x = new FlowHouse();
        Due.form(x, 0, "a:4 b:12 c:8=len");
        x.fill(0, 0, 0xA);
        x.fill(0, 1, 0xBCD);
        Due.same("letter", x.letter(0), 3);
        Due.same("count", x.count(6), 3);
        int[] due = {0xAB, 0xCD, 3};
        for (int i = 0; i < 3; i++) {
            Due.same("octet " + i, x.octet(i, 0), due[i]);
        }
        Due.same("letter", x.letter(1), FlowHouse.UNKNOWN);
        Due.same("letter", x.letter(4), FlowHouse.UNKNOWN);
        Due.same("letter", x.letter(-1), FlowHouse.UNKNOWN);
        Due.form(x, 1, "a:32 b:32 c:32 d:32 e:32 f:30 g:2=len");
        Due.same("letter", x.letter(1), 24);
        Due.same("the lowest bits of 24", x.fieldOf(1, 6), 0);
        Due.form(x, 1, "a:32 b:32 c:32 d:32 e:32 f:27 g:5=len");
        x.letter(1);
        Due.same("the lowest bits of 24", x.fieldOf(1, 6), 24);
    }

    private static void sums() {
        FlowHouse x = new FlowHouse();
        Due.form(x, 0, "a:8=255 b:8=255 s:8=sum");
        x.letter(0);
        Due.same("lowest of 511", x.fieldOf(0, 2), 255);
        Due.same("check", x.check(0), 0);
        Due.form(x, 0, "s:8=sum t:8=sum a:8=10");
        x.letter(0);
        Due.same("the first: 10 and 1", x.fieldOf(0, 0), 11);
        Due.same("the second: 10, 11 and 1", x.fieldOf(0, 1), 22);
        Due.same("the first is no more", x.check(0), 1);
        Due.form(x, 0, "a:4=5 s:12=sum b:8=7");
        x.letter(0);
        Due.same("its own bits are 0", x.fieldOf(0, 1), 5 * 16 + 7 + 1);
        Due.same("check", x.check(0), 0);
        x.cut(40);
        x.octet(3, 99);
        x.letter(0);
        Due.same("what was behind counts for nothing", x.fieldOf(0, 1), 5 * 16 + 7 + 1);
        Due.same("check", x.check(0), 0);
        Due.form(x, 0, "s:1=sum a:7=3");
        x.letter(0);
        Due.same("one bit", x.fieldOf(0, 0), 0);
    }

    private static void octetAndCut() {
        FlowHouse x = new FlowHouse();
        Due.same("octet", x.octet(0, 0), FlowHouse.UNKNOWN);
        Due.same("cut", x.cut(-1), FlowHouse.OUTSIDE);
        Due.same("cut", x.cut(41), FlowHouse.OUTSIDE);
        Due.same("cut", x.cut(40), 1);
        Due.same("octet", x.octet(39, 255), 255);
        Due.same("octet", x.octet(39, 15), 240);
        Due.same("octet", x.octet(39, 256), FlowHouse.OUTSIDE);
        Due.same("octet", x.octet(39, -1), FlowHouse.OUTSIDE);
        Due.same("octet: unknown is ahead", x.octet(40, 256), FlowHouse.UNKNOWN);
        Due.same("octet", x.octet(-1, 0), FlowHouse.UNKNOWN);
        Due.same("cut", x.cut(39), 1);
        Due.same("octet", x.octet(39, 0), FlowHouse.UNKNOWN);
        Due.same("cut", x.cut(40), 1);
        Due.same("0 behind", x.octet(39, 0), 0);
        Due.same("cut", x.cut(0), 1);
        Due.same("count", x.count(6), 0);
    }

    private static void checks() {
        FlowHouse x = new FlowHouse();
        Due.same("check", x.check(0), FlowHouse.UNKNOWN);
        Due.form(x, 0, "a:8=1 b:8 c:8=len d:8=sum");
        Due.same("fewer", x.check(0), -1);
        Due.same("fieldOf", x.fieldOf(0, 0), NOTHING);
        x.letter(0);
        Due.same("none", x.check(0), 0);
        x.octet(1, 1);
        Due.same("the sum", x.check(0), 4);
        x.octet(2, 1);
        Due.same("the length", x.check(0), 3);
        x.octet(0, 1);
        Due.same("the first", x.check(0), 1);
        Due.same("fieldOf", x.fieldOf(0, 0), 0);
        Due.same("fieldOf", x.fieldOf(0, 4), NOTHING);
        Due.same("fieldOf", x.fieldOf(0, -1), NOTHING);
        Due.same("fieldOf", x.fieldOf(1, 0), NOTHING);
        Due.same("fieldOf", x.fieldOf(4, 0), NOTHING);
        x.cut(5);
        Due.same("more", x.check(0), -1);
        Due.same("fieldOf", x.fieldOf(0, 0), NOTHING);
        x.cut(3);
        Due.same("fewer", x.check(0), -1);
        x.cut(4);
        Due.same("a letter of this length", x.fieldOf(0, 2), 5);
        Due.same("check changes nothing", x.octet(3, 0), 0);
    }

    private static void anew() {
        FlowHouse x = new FlowHouse();
        Due.form(x, 0, "a:8 b:8");
        x.fill(0, 0, 9);
        Due.same("fault", Due.form(x, 0, "a:8 b:7"), -17);
        Due.same("it stays", x.letter(0), 2);
        Due.same("with what it was filled with", x.octet(0, 0), 9);
        Due.same("new", Due.form(x, 0, "a:8 b:8"), 2);
        x.letter(0);
        Due.same("0 again", x.octet(0, 0), 0);
    }

    /** Forms by chance, each letter as one great number. */
    private static void randomForm(Random random) {
        int fields = 1 + random.nextInt(12);
        int[] widths = new int[fields];
        int all = 0;
        for (int i = 0; i < fields; i++) {
            widths[i] = 1 + random.nextInt(random.nextBoolean() ? 32 : 8);
            if (all + widths[i] > 256) {
                widths[i] = 256 - all;
            }
            if (i == fields - 1 && (all + widths[i]) % 8 != 0) {
                widths[i] = 8 - all % 8;
            }
            all += widths[i];
        }
        if (all > 256 || Math.min(widths[fields - 1], widths[Math.max(0, fields - 2)]) == 0) {
            return;
        }
        for (int w : widths) {
            if (w == 0) {
                return;
            }
        }
        FlowHouse x = new FlowHouse();
        int[] kinds = new int[fields];
        long[] values = new long[fields];
        StringBuilder text = new StringBuilder();
        for (int i = 0; i < fields; i++) {
            kinds[i] = random.nextInt(5);
            values[i] = random.nextLong() >>> 64 - widths[i];
            text.append((char) ('a' + i)).append(':').append(widths[i]);
            text.append(kinds[i] == 1 ? "=" + values[i] : kinds[i] == 2 ? "=len" : kinds[i] == 3 ? "=sum" : "");
            text.append(i % 2 == 0 ? "\n" : " ");
        }
        Due.same("form of " + text, Due.form(x, 1, text.toString()), fields);
        for (int i = 0; i < fields; i++) {
            Due.same("fill", x.fill(1, i, kinds[i] == 1 ? 0 : values[i]), 1);
        }
        BigInteger letter = BigInteger.ZERO;
        int[] lows = new int[fields];
        int left = all;
        for (int i = 0; i < fields; i++) {
            left -= widths[i];
            lows[i] = left;
            long v = kinds[i] == 2 ? all / 8 & (1L << widths[i]) - 1 : kinds[i] == 3 ? 0 : values[i];
            letter = letter.or(BigInteger.valueOf(v).shiftLeft(left));
        }
        for (int i = 0; i < fields; i++) {
            if (kinds[i] == 3) {
                letter = letter.or(BigInteger.valueOf(sum(letter, i, widths, lows)).shiftLeft(lows[i]));
            }
        }
        Due.same("letter", x.letter(1), all / 8);
        compare(x, letter, widths, lows, kinds, values, all);
        int at = random.nextInt(all / 8);
        int mask = 1 << random.nextInt(8);
        letter = letter.xor(BigInteger.valueOf(mask).shiftLeft(all - 8 - 8 * at));
        x.octet(at, mask);
        compare(x, letter, widths, lows, kinds, values, all);
    }

    private static long field(BigInteger letter, int width, int low) {
        return letter.shiftRight(low).and(BigInteger.ONE.shiftLeft(width).subtract(BigInteger.ONE))
                .longValueExact();
    }

    private static long sum(BigInteger letter, int i, int[] widths, int[] lows) {
        BigInteger own = BigInteger.valueOf(field(letter, widths[i], lows[i])).shiftLeft(lows[i]);
        BigInteger rest = letter.xor(own);
        long all = 1;
        for (int k = 0; k < 32; k++) {
            all += rest.shiftRight(8 * k).intValue() & 255;
        }
        return all & (1L << widths[i]) - 1;
    }

    private static void compare(FlowHouse x, BigInteger letter, int[] widths, int[] lows, int[] kinds,
            long[] values, int all) {
        int wrong = 0;
        for (int i = widths.length - 1; i >= 0; i--) {
            long is = field(letter, widths[i], lows[i]);
            Due.same("fieldOf " + i, x.fieldOf(1, i), is);
            long due = kinds[i] == 1 ? values[i] : kinds[i] == 2 ? all / 8 & (1L << widths[i]) - 1
                    : kinds[i] == 3 ? sum(letter, i, widths, lows) : is;
            wrong = due != is ? i + 1 : wrong;
        }
        Due.same("check", x.check(1), wrong);
        for (int i = 0; i < all / 8; i++) {
            Due.same("octet " + i, x.octet(i, 0), letter.shiftRight(all - 8 - 8 * i).intValue() & 255);
        }
    }
}
