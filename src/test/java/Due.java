/** What the tests share: each prints what is not as due, and ends with exit code 1 then. */
final class Due {
    private static final int MOST_PRINTED = 40;
    private static int looked = 0;
    private static int wrong = 0;

    private Due() {
    }

    static void same(String call, long got, long want) {
        looked++;
        if (got != want) {
            wrong++;
            if (wrong <= MOST_PRINTED) {
                System.out.println(call + " answered " + got + ", due is " + want);
            }
        }
    }

    static void yes(String what, boolean holds) {
        same(what, holds ? 1 : 0, 1);
    }

    static void end(String test) {
        System.out.println(test + ": " + looked + " answers looked at, " + wrong + " not as due");
        if (wrong != 0 || looked == 0) {
            System.exit(1);
        }
    }

    /** Lays a text on THE TAPE, which must be empty, and trims the blanks behind it away. */
    static void lay(FlowHouse house, String text) {
        for (int i = 0; i < text.length(); i += 20) {
            int[] five = new int[5];
            for (int k = 0; k < 20; k++) {
                int b = i + k < text.length() ? text.charAt(i + k) : ' ';
                five[k / 4] = five[k / 4] << 8 | b & 255;
            }
            same("feed of " + text, house.feed(five[0], five[1], five[2], five[3], five[4]), i + 20);
        }
        int length = text.length();
        int rounded = (length + 19) / 20 * 20;
        same("trim(" + length + ")", house.trim(length), rounded - length);
    }

    static int allow(FlowHouse house, int r, String text) {
        lay(house, text);
        return house.allow(r);
    }

    static int form(FlowHouse house, int f, String text) {
        lay(house, text);
        return house.form(f);
    }
}
