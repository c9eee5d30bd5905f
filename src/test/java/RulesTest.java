import java.util.Random;

/** Promises 11 to 14: feed, trim, allow, worth. */
public final class RulesTest {
    private static final long NOTHING = FlowHouse.NOTHING;
    private static final String REST = ";loss=1;late=1;";

    public static void main(String[] args) {
        feedAndTrim();
        usedUp();
        faults();
        depth();
        stays();
        values();
        byZero();
        wrapping();
        lackingMark();
        for (int seed = 0; seed < 4000; seed++) {
            randomText(new Random(seed));
        }
        Due.yes("most texts are tried: " + tooLong, tooLong < 1500);
        Due.end("RulesTest");
    }

    private static void feedAndTrim() {
        FlowHouse x = new FlowHouse();
        for (int i = 1; i <= 30; i++) {
            Due.same("feed", x.feed(0x20202020, 0x0A0A0A0A, 0, -1, 7), 20 * i);
        }
        Due.same("feed", x.feed(0, 0, 0, 0, 0), FlowHouse.FULL);
        Due.same("trim", x.trim(601), FlowHouse.OUTSIDE);
        Due.same("trim", x.trim(-1), FlowHouse.OUTSIDE);
        Due.same("trim", x.trim(600), 0);
        Due.same("trim", x.trim(581), 19);
        Due.same("feed", x.feed(0, 0, 0, 0, 0), FlowHouse.FULL);
        Due.same("count", x.count(5), 581);
        Due.same("trim", x.trim(580), 1);
        Due.same("feed", x.feed(0, 0, 0, 0, 0), 600);
        Due.same("trim", x.trim(0), 600);
        Due.same("trim", x.trim(0), 0);
        Due.same("trim", x.trim(1), FlowHouse.OUTSIDE);
        Due.same("feed: the highest byte first", x.feed(0x61636B3D, 0x313B6C6F, 0x73733D32, 0x3B6C6174,
                0x653D333B), 20);
        Due.same("allow", x.allow(0), 3);
        Due.same("worth", x.worth(0, 1, 0, 0, 0, 0, 0), 2);
    }

    /** What reads THE TAPE uses it up, be it refused, at fault, or read. */
    private static void usedUp() {
        FlowHouse x = new FlowHouse();
        Due.lay(x, "ack=1;loss=1;late=1;");
        Due.same("allow", x.allow(6), FlowHouse.UNKNOWN);
        Due.same("used up", x.count(5), 0);
        Due.lay(x, "ack=1;loss=1;late=1;");
        Due.same("allow", x.allow(-1), FlowHouse.UNKNOWN);
        Due.same("used up", x.count(5), 0);
        Due.lay(x, "ack=1;loss=1;late=1;");
        Due.same("form", x.form(4), FlowHouse.UNKNOWN);
        Due.same("used up", x.count(5), 0);
        Due.lay(x, "ack");
        Due.same("allow", x.allow(0), -13);
        Due.same("used up", x.count(5), 0);
        Due.lay(x, "ack=1;loss=1;late=1;");
        Due.same("allow", x.allow(5), 3);
        Due.same("used up", x.count(5), 0);
    }

    private static void fault(String text, int place) {
        FlowHouse x = new FlowHouse();
        Due.same("allow of " + text, Due.allow(x, 2, text), -10 - place);
        Due.same("no rule", x.worth(2, 0, 1, 1, 1, 1, 1), NOTHING);
    }

    private static void faults() {
        fault("", 0);
        fault("   ", 3);
        fault("ack=1;loss=1;", 13);
        fault("ack=1;loss=1;late=1", 19);
        fault("ack=1;loss=1;late=1 \n", 21);
        fault("ack=1;loss=1;late=1;mark", 24);
        fault("ack=1;loss=1;late=1;mark=1", 26);
        fault("ack=1;loss=1;late=1;mark=1;mark=1;", 27);
        fault("ack=1;loss=1;late=1;ack=1;", 20);
        fault("loss=1;ack=1;late=1;", 0);
        fault("ack=1;late=1;loss=1;", 6);
        fault(" acks=1" + REST, 1);
        fault("ac k=1" + REST, 0);
        fault("ack 1=1" + REST, 4);
        fault("ack==1" + REST, 4);
        fault("bck=1" + REST, 0);
        fault("acc=1" + REST, 0);
        fault("ack=nin(1,2)" + REST, 4);
        fault("ack=mix(1,2)" + REST, 4);
        fault("ack=of(1,2,3)" + REST, 4);
        fault("ack=" + REST, 4);
        fault("ack=1;;loss=1;late=1;", 6);
        fault("ack=1234567" + REST, 4);
        fault("ack=w+1234567" + REST, 6);
        fault("ack=x" + REST, 4);
        fault("ack=wt" + REST, 4);
        fault("ack=w t" + REST, 6);
        fault("ack=12w" + REST, 6);
        fault("ack=w1" + REST, 5);
        fault("ack=W" + REST, 4);
        fault("ack=1\t" + REST, 5);
        fault("ack=1\u00e4" + REST, 5);
        fault("ack=1\u0000" + REST, 5);
        fault("ack=+1" + REST, 4);
        fault("ack=1+" + REST, 6);
        fault("ack=1*/2" + REST, 6);
        fault("ack=1**2" + REST, 6);
        fault("ack=()" + REST, 5);
        fault("ack=(1" + REST, 6);
        fault("ack=1)" + REST, 5);
        fault("ack=(1,2)" + REST, 6);
        fault("ack=min" + REST, 7);
        fault("ack=min 1" + REST, 8);
        fault("ack=min(1)" + REST, 9);
        fault("ack=min(1,2,3)" + REST, 11);
        fault("ack=max(1,)" + REST, 10);
        fault("ack=if(1,2)" + REST, 10);
        fault("ack=if(1,2,3,4)" + REST, 12);
        fault("ack=if(,2,3)" + REST, 7);
        fault("ack=minmax(1,2)" + REST, 4);
        fault("ack=ack" + REST, 4);
        fault("ack=1&2" + REST, 5);
    }

    private static void depth() {
        FlowHouse x = new FlowHouse();
        Due.same("ten minus", Due.allow(x, 0, "ack=----------w" + REST), 3);
        Due.same("value", x.worth(0, 0, 7, 0, 0, 0, 0), 7);
        fault("ack=-----------w" + REST, 14);
        Due.same("ten open", Due.allow(x, 0, "ack=((((((((((w))))))))))" + REST), 3);
        fault("ack=(((((((((((w)))))))))))" + REST, 14);
        Due.same("five of each", Due.allow(x, 0, "ack=-(-(-(-(-(w)))))" + REST), 3);
        Due.same("value", x.worth(0, 0, 7, 0, 0, 0, 0), -7);
        fault("ack=-(-(-(-(-(-w)))))" + REST, 14);
        fault("ack=-(-(-(-(-((w))))))" + REST, 14);
        fault("ack=((((((((((min(1,2)))))))))))" + REST, 17);
        fault("ack=((((((((((if(1,2,3)))))))))))" + REST, 16);
        fault("ack=((((((((((min;", 17);
        Due.same("closed ones don't count", Due.allow(x, 0,
                "ack=-1+-1+-1+-1+-1+-1+-1+-1+-1+-1+-1+(1)+(1)+(1)+(1)+(1)+(1)+(1)+(1)" + REST), 21);
        Due.same("value", x.worth(0, 0, 7, 0, 0, 0, 0), -3);
        Due.same("minus between is not open", Due.allow(x, 0, "ack=1-1-1-1-1-1-1-1-1-1-1-1-1" + REST),
                15);
        Due.same("value", x.worth(0, 0, 7, 0, 0, 0, 0), -11);
        StringBuilder deep = new StringBuilder("ack=");
        for (int i = 0; i < 10; i++) {
            deep.append("1+2*if(1+1*");
            deep.append("1,1+2*3,1+2*");
        }
        deep.append("w");
        for (int i = 0; i < 10; i++) {
            deep.append(")");
        }
        Due.same("deep", Due.allow(x, 0, deep + REST), 10 * 10 + 1 + 2);
        Due.same("deep value", x.worth(0, 0, 7, 0, 0, 0, 0), 1 + 2 * 7);
    }

    private static void stays() {
        FlowHouse x = new FlowHouse();
        Due.same("allow", Due.allow(x, 1, "ack=5;loss=6;late=7;mark=8;"), 4);
        Due.same("fault", Due.allow(x, 1, "ack=1;loss=2;late=3;mark=4;5"), -37);
        for (int text = 0; text < 4; text++) {
            Due.same("stays", x.worth(1, text, 0, 0, 0, 0, 0), 5 + text);
        }
        Due.same("allow", Due.allow(x, 1, "ack=1;loss=2;late=3;"), 3);
        for (int text = 0; text < 4; text++) {
            Due.same("new", x.worth(1, text, 0, 0, 0, 0, 0), text < 3 ? 1 + text : 2);
        }
        Due.same("another", x.worth(0, 0, 0, 0, 0, 0, 0), NOTHING);
        Due.same("the last", Due.allow(x, 5, "ack=1;loss=2;late=3;"), 3);
        Due.same("the last", x.worth(5, 2, 0, 0, 0, 0, 0), 3);
        Due.same("RULE -1", x.worth(-1, 0, 1000, 0, 0, 0, 0), NOTHING);
        Due.same("RULE 6", x.worth(6, 0, 1000, 0, 0, 0, 0), NOTHING);
        Due.same("text -1", x.worth(1, -1, 1000, 0, 0, 0, 0), NOTHING);
        Due.same("text 4", x.worth(1, 4, 1000, 0, 0, 0, 0), NOTHING);
    }

    private static void value(String text, long due) {
        FlowHouse x = new FlowHouse();
        Due.yes("allow of " + text, Due.allow(x, 4, "ack=" + text + REST) >= 3);
        Due.same(text, x.worth(4, 0, 2, 3, 5, 7, 11), due);
    }

    private static void values() {
        value("w", 2);
        value("t", 3);
        value("m", 5);
        value("n", 7);
        value("s", 11);
        value("000123", 123);
        value("999999", 999999);
        value("1-2-3", -4);
        value("100/7/2", 7);
        value("100/7*7", 98);
        value("100%7*3", 6);
        value("2+3*4", 14);
        value("(2+3)*4", 20);
        value("-7/2", -3);
        value("-7%4", -3);
        value("7%-4", 3);
        value("-7/-2", 3);
        value("- - w", 2);
        value("2*-3", -6);
        value("2--3", 5);
        value("min(3,-4)", -4);
        value("max(3,-4)", 3);
        value("if(1,2,3)", 2);
        value("if(0,2,3)", 3);
        value("if(-1,2,3)", 3);
        value("if(w-t,n,if(s,m,t))", 5);
        value(" w\n+ t ", 5);
    }

    private static void byZero() {
        String[] texts = {
            "1/0", "1%0", "0/0", "w/(t-3)", "if(1,2,3/0)", "if(0,2%0,3)", "if(1/0,2,3)", "min(1/0,2)",
            "0*(1/0)", "-(1/0)", "1/(1/2)"
        };
        for (String text : texts) {
            FlowHouse x = new FlowHouse();
            Due.allow(x, 0, "ack=" + text + ";loss=2;late=3;");
            boolean thrown = false;
            try {
                x.worth(0, 0, 2, 3, 5, 7, 11);
            } catch (ArithmeticException e) {
                thrown = true;
            }
            Due.yes(text + " throws", thrown);
            Due.same("another text", x.worth(0, 1, 2, 3, 5, 7, 11), 2);
        }
    }

    private static void wrapping() {
        FlowHouse x = new FlowHouse();
        Due.allow(x, 0, "ack=w*w*w;loss=-w*t*2/-1;late=w*t*2*t%-1;");
        Due.same("wraps", x.worth(0, 0, Integer.MIN_VALUE, 0, 0, 0, 0), 0);
        Due.same("wraps", x.worth(0, 0, 2000000000, 0, 0, 0, 0), 2000000000L * 2000000000L * 2000000000L);
        Due.same("the least by -1", x.worth(0, 1, Integer.MIN_VALUE, Integer.MIN_VALUE, 0, 0, 0),
                -(long) Integer.MIN_VALUE * Integer.MIN_VALUE * 2 / -1);
        Due.same("the least by -1", x.worth(0, 2, Integer.MIN_VALUE, Integer.MIN_VALUE, 0, 0, 0), 0);
    }

    private static void lackingMark() {
        FlowHouse x = new FlowHouse();
        Due.same("allow", Due.allow(x, 0, "ack=1;loss=w/t;late=1;"), 4);
        Due.same("as loss", x.worth(0, 3, 100, 7, 0, 0, 0), 14);
        boolean thrown = false;
        try {
            x.worth(0, 3, 100, 0, 0, 0, 0);
        } catch (ArithmeticException e) {
            thrown = true;
        }
        Due.yes("as loss", thrown);
    }

    // ---- texts by chance, worked out as they are written

    private static boolean byZero;
    private static int factors;
    private static int tooLong;

    private static void randomText(Random random) {
        byZero = false;
        factors = 0;
        long[] v = {random.nextInt(9) - 2, random.nextInt(), random.nextInt(5), random.nextInt(70),
            random.nextInt(1000)};
        StringBuilder text = new StringBuilder("ack=");
        long due = sum(random, text, v, 0, random.nextInt(6));
        text.append(REST);
        if (text.length() > 600) {
            tooLong++;
            return;
        }
        FlowHouse x = new FlowHouse();
        Due.same("allow of " + text, Due.allow(x, 0, text.toString()), factors + 2);
        boolean thrown = false;
        long got = 0;
        try {
            got = x.worth(0, 0, (int) v[0], (int) v[1], (int) v[2], (int) v[3], (int) v[4]);
        } catch (ArithmeticException e) {
            thrown = true;
        }
        Due.same("throws: " + text, thrown ? 1 : 0, byZero ? 1 : 0);
        if (!byZero) {
            Due.same("worth of " + text, got, due);
        }
    }

    private static long sum(Random random, StringBuilder text, long[] v, int open, int most) {
        long all = product(random, text, v, open, most);
        for (int i = random.nextInt(5) / 2 - random.nextInt(2); i > 0; i--) {
            boolean plus = random.nextBoolean();
            text.append(plus ? "+" : " - ");
            long next = product(random, text, v, open, most);
            all = plus ? all + next : all - next;
        }
        return all;
    }

    private static long product(Random random, StringBuilder text, long[] v, int open, int most) {
        long all = factor(random, text, v, open, most);
        for (int i = random.nextInt(5) / 2 - random.nextInt(2); i > 0; i--) {
            int kind = random.nextInt(3);
            text.append("*/%".charAt(kind));
            long next = factor(random, text, v, open, most);
            if (kind == 0) {
                all *= next;
            } else if (next == 0) {
                byZero = true;
                all = 0;
            } else {
                all = kind == 1 ? all / next : all % next;
            }
        }
        return all;
    }

    private static long factor(Random random, StringBuilder text, long[] v, int open, int most) {
        int kind = random.nextInt(open < most ? 7 : 2);
        if (kind == 0) {
            int number = random.nextInt(random.nextBoolean() ? 4 : 1000000);
            text.append(number);
            factors++;
            return number;
        }
        if (kind == 1) {
            int which = random.nextInt(5);
            text.append("wtmns".charAt(which));
            factors++;
            return v[which];
        }
        if (kind == 2) {
            text.append('-');
            return -factor(random, text, v, open + 1, most);
        }
        text.append(kind == 3 ? "(" : kind == 4 ? "min(" : kind == 5 ? "max (" : "if(");
        long first = sum(random, text, v, open + 1, most);
        long second = 0;
        long third = 0;
        if (kind > 3) {
            text.append(',');
            second = sum(random, text, v, open + 1, most);
        }
        if (kind == 6) {
            text.append(",\n");
            third = sum(random, text, v, open + 1, most);
        }
        text.append(')');
        return kind == 3 ? first : kind == 4 ? Math.min(first, second)
                : kind == 5 ? Math.max(first, second) : first > 0 ? second : third;
    }
}
