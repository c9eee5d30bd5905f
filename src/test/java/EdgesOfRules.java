/** The document's edges of RULES: Terms 3, Promises 11 to 14. */
final class EdgesOfRules {
    private static final long NOTHING = FlowHouse.NOTHING;
    private static final long THROWN = 123456789L;
    private static final String REST = ";loss=1;late=1;";
    private static final Scene BUSY = Busy.SCENE;

    private EdgesOfRules() {
    }

    static void all() {
        feed();
        trim();
        unknown();
        numbers();
        letters();
        choice();
        wrapping();
        tenOpen();
        wrongTokens();
        endsTooEarly();
        blanks();
        markMayLack();
        wholeTape();
        stays();
        worth();
        byZero();
        fails();
        noTrial();
        atFirst();
    }

    private static void feed() {
        Document.term(3, "TEXTS on THE TAPE (600 bytes;");
        Document.promise(11, "Twenty bytes come behind THE TAPE, the highest of each number first: how many it has. FULL.");
        FlowHouse x = new FlowHouse();
        for (int i = 1; i <= 30; i++) {
            Due.same("feed", x.feed(i, -i, 0, -1, Integer.MIN_VALUE), 20 * i);
        }
        Due.same("600", x.count(5), 600);
        for (int kept : new int[] {600, 599, 581}) {
            Scene full = new Scene("a tape of " + kept, y -> {
                for (int i = 0; i < 30; i++) {
                    y.feed(0x61636B3D, 0x313B6C6F, 0x73733D32, 0x3B6C6174, 0x653D333B);
                }
                y.trim(kept);
            });
            full.refuses("feed", y -> y.feed(0, 0, 0, 0, 0), FlowHouse.FULL);
        }
        x.trim(580);
        Due.same("just twenty", x.feed(0, 0, 0, 0, 0), 600);
        FlowHouse y = new FlowHouse();
        y.feed(0x61636B3D, 0x313B6C6F, 0x73733D32, 0x3B6C6174, 0x653D333B);
        Due.same("ack=1;loss=2;late=3;", y.allow(0), 3);
        Due.same("loss", y.worth(0, 1, 0, 0, 0, 0, 0), 2);
    }

    private static void trim() {
        Document.promise(12, "THE TAPE keeps its first n bytes: how many went. OUTSIDE.");
        BUSY.outside("trim", (x, v) -> x.trim(v), 0, 20, FlowHouse.OUTSIDE);
        BUSY.answers("all stay", x -> x.trim(20), 0);
        BUSY.answers("all go", x -> x.trim(0), 20);
        BUSY.answers("one goes", x -> x.trim(19), 1);
        Scene empty = Scene.empty();
        empty.answers("none are there", x -> x.trim(0), 0);
        empty.outside("trim of none", (x, v) -> x.trim(v), 0, 0, FlowHouse.OUTSIDE);
        FlowHouse x = BUSY.made();
        x.trim(13);
        Due.same("the first ones stay", x.allow(1), -23);
    }

    private static void unknown() {
        Document.term(3, "RULES 0 .. 5:");
        Document.promise(13, "how many NUMBERS and letters of FACTORS it has. UNKNOWN: r;");
        String good = "ack=1;loss=w+t*m;late=(n)-s;mark=-2;";
        for (int r : new int[] {-1, 6, -2, 7, 256, Integer.MIN_VALUE, Integer.MAX_VALUE}) {
            BUSY.refusesText(good, x -> x.allow(r), FlowHouse.UNKNOWN);
            BUSY.refusesText("UNKNOWN is ahead of FAULTS", x -> x.allow(r), FlowHouse.UNKNOWN);
        }
        for (int r = 0; r <= 5; r++) {
            FlowHouse x = new FlowHouse();
            Due.same("allow(" + r + ")", Due.allow(x, r, good), 7);
            Due.same("THE TAPE is used up", x.count(5), 0);
            for (int other = 0; other <= 5; other++) {
                Due.same("just that one", x.worth(other, 0, 0, 0, 0, 0, 0), other == r ? 1 : NOTHING);
            }
        }
    }

    private static void fault(String text, int place) {
        BUSY.refusesText(text, x -> x.allow(0), -10 - place);
        FlowHouse x = new FlowHouse();
        Due.same("allow of " + text, Due.allow(x, 0, text), -10 - place);
        Due.same("no RULE", x.worth(0, 0, 1, 1, 1, 1, 1), NOTHING);
    }

    private static void value(String text, long due) {
        FlowHouse x = new FlowHouse();
        Due.yes("allow of " + text, Due.allow(x, 0, "ack=" + text + REST) >= 3);
        Due.same(text, x.worth(0, 0, 2, 3, 5, 7, 11), due);
    }

    private static void numbers() {
        Document.term(3, "NUMBER (1 to 6 digits),");
        Document.term(3, "(a longer NUMBER,");
        value("0", 0);
        value("9", 9);
        value("999999", 999999);
        value("000000", 0);
        value("000009", 9);
        fault("ack=" + REST, 4);
        fault("ack=1000000" + REST, 4);
        fault("ack=0000000" + REST, 4);
        fault("ack=1+9999999" + REST, 6);
        fault("ack=-1234567" + REST, 5);
        fault("ack=1;loss=1234567;late=1;", 11);
        fault("ack=12345678901234567890" + REST, 4);
    }

    private static void letters() {
        Document.term(3, "w (ALLOWANCE), t (the latest TRIAL), m (LEAST), n (UNITS sent and not ANSWERED, as it is worked out), "
                + "s (SMOOTH) (t, m, s -1, if there is none),");
        value("w", 2);
        value("t", 3);
        value("m", 5);
        value("n", 7);
        value("s", 11);
        for (char c = 'a'; c <= 'z'; c++) {
            if ("wtmns".indexOf(c) < 0) {
                fault("ack=" + c + REST, 4);
            }
        }
        FlowHouse x = new FlowHouse();
        Due.allow(x, 0, "ack=w;loss=s;late=m;");
        Due.same("any numbers", x.worth(0, 0, Integer.MIN_VALUE, 0, 0, 0, 0), Integer.MIN_VALUE);
        Due.same("any numbers", x.worth(0, 1, 0, 0, 0, 0, Integer.MAX_VALUE), Integer.MAX_VALUE);
        Due.same("any numbers", x.worth(0, 2, 0, 0, -1, 0, 0), -1);
    }

    private static void choice() {
        Document.term(3, "the second, if the first is above 0, else the third (all three are worked out).");
        value("if(1,5,6)", 5);
        value("if(0,5,6)", 6);
        value("if(-1,5,6)", 6);
        value("if(999999,5,6)", 5);
        String[] all = {"if(1,5,6/0)", "if(0,5/0,6)", "if(6%0,5,6)"};
        for (String text : all) {
            Due.yes(text, throwsByZero("ack=" + text + REST, 0));
        }
    }

    private static void wrapping() {
        Document.term(3, "All in 64 bits, wrapping.");
        FlowHouse x = new FlowHouse();
        Due.allow(x, 0, "ack=w*t*2-1;loss=w*t*2;late=-(w*t*2);mark=w*t*2/-1+w*t*2%-1;");
        int least = Integer.MIN_VALUE;
        Due.same("the greatest", x.worth(0, 0, least, least, 0, 0, 0), Long.MAX_VALUE);
        Due.same("1 more is the least", x.worth(0, 1, least, least, 0, 0, 0), Long.MIN_VALUE);
        Due.same("less the least", x.worth(0, 2, least, least, 0, 0, 0), Long.MIN_VALUE);
        Due.same("the least by -1", x.worth(0, 3, least, least, 0, 0, 0), Long.MIN_VALUE);
        Due.allow(x, 1, "ack=w*t*2-1+1;loss=w*t*2-1-w*t*2-1;late=w*w*w;");
        Due.same("+", x.worth(1, 0, least, least, 0, 0, 0), Long.MIN_VALUE);
        Due.same("-", x.worth(1, 1, least, least, 0, 0, 0), -2);
        Due.same("*", x.worth(1, 2, 2097153, 0, 0, 0, 0), 2097153L * 2097153L * 2097153L);
    }

    private static String row(String s, int times) {
        return s.repeat(times);
    }

    private static void tenOpen() {
        Document.term(3, "At most 10 of ( and - are open at once.");
        Document.term(3, "the eleventh open;");
        value(row("(", 10) + "w" + row(")", 10), 2);
        fault("ack=" + row("(", 11) + "w" + row(")", 11) + REST, 14);
        value(row("-", 10) + "w", 2);
        fault("ack=" + row("-", 11) + "w" + REST, 14);
        value(row("-(", 5) + "w" + row(")", 5), -2);
        fault("ack=" + row("-(", 5) + "-w" + row(")", 5) + REST, 14);
        fault("ack=" + row("-(", 5) + "(w)" + row(")", 5) + REST, 14);
        value(row("max(1,", 10) + "w" + row(")", 10), 2);
        fault("ack=" + row("max(1,", 11) + "w" + row(")", 11) + REST, 67);
        value(row("if(1,", 10) + "w" + row(",3)", 10), 2);
        fault("ack=" + row("if(1,", 11) + "w" + row(",3)", 11) + REST, 56);
        fault("ack=" + row("(", 9) + "min(-1,2)" + row(")", 9) + REST, 17);
        value(row("-1+(1)+", 11) + "w", 2);
        value(row("(", 9) + "-1-1-(1)" + row(")", 9), -3);
        value("1" + row("-1", 20), -19);
        fault("ack=" + row("(", 11), 14);
        fault("ack=" + row("(", 10) + "min" + row("(", 2), 17);
    }

    private static void wrongTokens() {
        Document.term(3, "FAULT: the place of the first TOKEN that cannot stand there (a longer NUMBER, another word, byte;");
        Document.term(3, "(600 bytes; TOKENS as long as may be, blanks 32, 10 between):");
        fault("acks=1" + REST, 0);
        fault("ac=1" + REST, 0);
        fault("bck=1" + REST, 0);
        fault("adk=1" + REST, 0);
        fault("acl=1" + REST, 0);
        fault("ack=1;boss=1;late=1;", 6);
        fault("ack=nin(1,2)" + REST, 4);
        fault("ack=nax(1,2)" + REST, 4);
        fault("ack=of(1,2,3)" + REST, 4);
        fault("loss=1;late=1;", 0);
        fault("ack=1;late=1;loss=1;", 6);
        fault("ack=1;loss=1;mark=1;", 13);
        fault("ack=1" + REST + "ack=1;", 5 + REST.length());
        fault("ack=1" + REST + "mark=1;mark=1;", 5 + REST.length() + 7);
        fault("ack 1" + REST, 4);
        fault("ack=1:" + REST, 5);
        fault("ack=1 2" + REST, 6);
        fault("ack=12w" + REST, 6);
        fault("ack=w12" + REST, 5);
        fault("ack=ww" + REST, 4);
        fault("ack=mins(1,2)" + REST, 4);
        fault("ack=mi(1,2)" + REST, 4);
        fault("ack=i(1,2,3)" + REST, 4);
        fault("ack=min 1,2" + REST, 8);
        fault("ack=min(1)" + REST, 9);
        fault("ack=min(1,2,3)" + REST, 11);
        fault("ack=max(1,2" + REST, 11);
        fault("ack=if(1,2)" + REST, 10);
        fault("ack=if(1,2,3,4)" + REST, 12);
        fault("ack=(1" + REST, 6);
        fault("ack=1)" + REST, 5);
        fault("ack=()" + REST, 5);
        fault("ack=+1" + REST, 4);
        fault("ack=1+*2" + REST, 6);
        fault("ack=1 -" + REST, 7);
        for (int b = 0; b < 256; b++) {
            if ("0123456789abcdefghijklmnopqrstuvwxyz \n;+-*/%".indexOf(b) < 0) {
                fault("ack=1" + (char) b + REST, 5);
            }
        }
    }

    private static void endsTooEarly() {
        Document.term(3, "the text's end, if it ends too early).");
        String whole = "ack=if(w,min(1,2),-3)+4*5;loss=(1);late=1;mark=max(1,2)%3;";
        int goodEnd = whole.indexOf("mark");
        for (int end = 0; end < whole.length(); end++) {
            String text = whole.substring(0, end);
            boolean cutWord = end > 0 && Character.isLetter(whole.charAt(end)) && Character.isLetter(whole.charAt(end - 1));
            if (end == goodEnd || cutWord) {
                continue;
            }
            fault(text, end);
            fault(text + " \n ", end + 3);
        }
        fault("ac", 0);
        FlowHouse x = new FlowHouse();
        Due.same("just the three", Due.allow(x, 0, whole.substring(0, goodEnd)), 8);
        Due.same("all four", Due.allow(x, 0, whole), 11);
    }

    private static void blanks() {
        value(" \n w \n+\n\n 1 ", 3);
        FlowHouse x = new FlowHouse();
        Due.same("ahead and behind", Due.allow(x, 0, "\n ack = 1 ; loss = 1 ; late = 1 ; \n\n "), 3);
        fault("a ck=1" + REST, 0);
        fault("ack=m in(1,2)" + REST, 6);
        fault("ack=1\n2" + REST, 6);
        fault("ack=1\r" + REST, 5);
        fault("ack=1\t" + REST, 5);
    }

    private static void markMayLack() {
        Document.term(3, "in this row, the last one may lack (then as loss).");
        FlowHouse x = new FlowHouse();
        Due.same("without", Due.allow(x, 0, "ack=1;loss=w+2;late=3;"), 4);
        Due.same("as loss", x.worth(0, 3, 40, 0, 0, 0, 0), 42);
        Due.same("with", Due.allow(x, 0, "ack=1;loss=2;late=3;mark=4;"), 4);
        Due.same("its own", x.worth(0, 3, 0, 0, 0, 0, 0), 4);
        Due.same("without again", Due.allow(x, 0, "ack=1;loss=7;late=3;"), 3);
        Due.same("as loss again", x.worth(0, 3, 0, 0, 0, 0, 0), 7);
    }

    /** A text of just 600 bytes. */
    private static void wholeTape() {
        String head = "ack=w";
        String end = ";loss=1;late=1;";
        int more = (600 - head.length() - end.length()) / 2;
        StringBuilder text = new StringBuilder(head);
        for (int i = 0; i < more; i++) {
            text.append("+1");
        }
        text.append(end);
        FlowHouse x = new FlowHouse();
        Due.same("600 bytes", text.length(), 600);
        Due.same("allow", Due.allow(x, 0, text.toString()), 1 + more + 2);
        Due.same("worth", x.worth(0, 0, 1000, 0, 0, 0, 0), 1000 + more);
        text.setCharAt(599, ')');
        Due.same("the last byte", Due.allow(x, 0, text.toString()), -609);
        text.setCharAt(599, '+');
        Due.same("its end is at 600", Due.allow(x, 0, text.toString()), -610);
        text.setCharAt(599, ' ');
        Due.same("its end is at 600", Due.allow(x, 0, text.toString()), -610);
    }

    private static void stays() {
        Document.promise(13, "a FAULT: -10 less its place (the RULE stays as it was).");
        FlowHouse x = new FlowHouse();
        Due.allow(x, 2, "ack=5;loss=6;late=7;mark=8;");
        Due.same("FAULT at its end", Due.allow(x, 2, "ack=1;loss=2;late=3;mark=4;;"), -37);
        for (int text = 0; text < 4; text++) {
            Due.same("as it was", x.worth(2, text, 0, 0, 0, 0, 0), 5 + text);
        }
        Due.same("FAULT at its beginning", Due.allow(x, 2, ";"), -10);
        Due.same("nothing at all", Due.allow(x, 2, ""), -10);
        for (int text = 0; text < 4; text++) {
            Due.same("as it was", x.worth(2, text, 0, 0, 0, 0, 0), 5 + text);
        }
    }

    private static void worth() {
        Document.promise(14, "The VALUE of a RULE's text (0 ack, 1 loss, 2 late, 3 mark: as loss, if it lacks) with these numbers, "
                + "as it is worked out.");
        Document.promise(14, "NOTHING: no such RULE, text.");
        BUSY.outside("worth's RULE", (x, v) -> x.worth(v, 0, 1, 1, 1, 1, 1), 0, 5, NOTHING);
        for (int r : new int[] {1, 2, 4, 5}) {
            BUSY.refuses("a RULE without a text", x -> x.worth(r, 0, 1, 1, 1, 1, 1), NOTHING);
        }
        BUSY.outside("worth's text", (x, v) -> x.worth(0, v, 1, 1, 1, 1, 1), 0, 3, NOTHING);
        BUSY.answers("the first text", x -> x.worth(0, 0, 100, 0, 0, 0, 0), 1000);
        BUSY.answers("the last text", x -> x.worth(0, 3, 100, 0, 0, 0, 0), 99);
        BUSY.answers("as it is worked out, not within 1000 .. 64000", x -> x.worth(0, 0, 99999, 0, 0, 0, 0), 100899);
    }

    private static boolean throwsByZero(String text, int which) {
        FlowHouse x = new FlowHouse();
        Due.yes(text, Due.allow(x, 0, text) > 0);
        try {
            x.worth(0, which, 2, 3, 5, 7, 11);
        } catch (ArithmeticException e) {
            return true;
        }
        return false;
    }

    private static void byZero() {
        Document.promise(14, "ArithmeticException: by 0.");
        String[] texts = {"1/0", "1%0", "0/0", "w/(w-2)", "1/(1/2)", "1%(4%2)", "-(1/0)", "0*(1/0)", "max(1,1/0)", "1/0+1/0"};
        for (String text : texts) {
            Due.yes(text, throwsByZero("ack=" + text + REST, 0));
            Due.yes(text + " as mark", throwsByZero("ack=1;loss=" + text + ";late=1;", 3));
            Due.yes("not in another text", !throwsByZero("ack=1;loss=" + text + ";late=1;", 0));
            Due.yes("not in another text", !throwsByZero("ack=1;loss=" + text + ";late=1;", 2));
        }
        Due.yes("not by 1", !throwsByZero("ack=1/1+1%1" + REST, 0));
        Due.yes("not by -1", !throwsByZero("ack=1/-1+1%-1" + REST, 0));
        BUSY.refuses("by 0", x -> worthOrThrown(x, 3, 1), THROWN);
        BUSY.answers("it goes on", x -> worthOrThrown(x, 3, 1) + worthOrThrown(x, 0, 1), THROWN + 5);
    }

    private static long worthOrThrown(FlowHouse x, int r, int text) {
        try {
            return x.worth(r, text, 10, 1, 1, 1, 1);
        } catch (ArithmeticException e) {
            return THROWN;
        }
    }

    private static FlowHouse ruled(String text) {
        FlowHouse x = new FlowHouse();
        x.line(10, 5, 2000, 2000);
        x.line(10, 5, 2000, 2000);
        x.flow(3, 10, 1, 3, 1, 2, 0);
        Due.yes(text, Due.allow(x, 0, text) > 0);
        x.rule(0, 0);
        return x;
    }

    private static void fails() {
        Document.term(3, "with / or % by 0 w becomes 1000, and the FLOW's FAILS are 1 more.");
        for (String by : new String[] {"9000/(n-n)", "9000%(n-n)", "if(1,9000,1/0)"}) {
            FlowHouse x = ruled("ack=if(w-1000," + by + ",5000);loss=1;late=1;");
            x.go(500);
            Due.same("each ack fails, as it is worked out in any case", x.flowOf(0, 12), 3);
            Due.same("w", x.flowOf(0, 3), 1000);
        }
        FlowHouse y = ruled("ack=5000;loss=1;late=9000/0;");
        y.fate(0, 0, 1);
        while (y.count(0) < 100) {
            y.go(1);
        }
        Due.same("late fails", y.flowOf(0, 12), 1);
        Due.same("w", y.flowOf(0, 3), 1000);
        y.go(500);
        Due.same("no more", y.flowOf(0, 12), 1);
        Due.same("w", y.flowOf(0, 3), 5000);
    }

    /** The first ALARM comes ahead of a TRIAL: w is 5000, less 100, less 10, less 1. */
    private static void noTrial() {
        FlowHouse x = ruled("ack=2000;loss=1;late=5000+100*t+10*m+s;");
        x.fate(0, 0, 1);
        while (x.count(0) < 100) {
            x.go(1);
        }
        Due.same("t, m, s are -1", x.flowOf(0, 3), 4889);
        FlowHouse y = ruled("ack=1000*t+100*m+s+n*10000;loss=1;late=1;");
        while (y.flowOf(0, 1) < 1) {
            y.go(1);
        }
        Due.same("t, m, s are 12 at once, n 0", y.flowOf(0, 3), 12 * 1101);
    }

    private static void atFirst() {
        Document.term(3, "A FLOW has RULE -1 at first: ack = w + 1000000 / w ; loss = w / 2 ; late = 1000 ;");
        for (int w : new int[] {1000, 9900, 9901, 63985, 63999, 64000}) {
            FlowHouse y = ruled("ack=" + w + ";loss=1;late=1;");
            while (y.flowOf(0, 1) < 1) {
                y.go(1);
            }
            y.rule(0, -1);
            while (y.flowOf(0, 1) < 2) {
                y.go(1);
            }
            Due.same("ack of " + w, y.flowOf(0, 3), Math.min(64000, w + 1000000 / w));
        }
        FlowHouse x = new FlowHouse();
        x.line(10, 20, 2000, 2000);
        x.line(100, 20, 2000, 2000);
        x.flow(200, 10, 1, 8, 1, 2, 0);
        Due.same("RULE", x.flowOf(0, 16), -1);
        int w = 1000;
        for (int unit = 0; unit < 12; unit++) {
            while (x.flowOf(0, 1) <= unit) {
                x.go(1);
            }
            w += 1000000 / w;
            Due.same("ack", x.flowOf(0, 3), w);
        }
        x.fate(0, x.lineOf(0, 1), 1);
        while (x.flowOf(0, 11) < 3) {
            w = x.flowOf(0, 3);
            x.go(1);
        }
        Due.same("loss", x.flowOf(0, 3), w / 2);
        x.luck(0, 0, 1024);
        int again = x.flowOf(0, 9);
        while (x.flowOf(0, 9) == again) {
            x.go(1);
        }
        Due.same("late", x.flowOf(0, 3), 1000);
    }
}
