/** What the tests share: to lay memory out, to read it back, to see that nothing has changed. */
abstract class MemoryTestKit {
    static final Checks CHECKS = new Checks();
    static final String NINES = "9".repeat(31);
    static final int LOWEST = Integer.MIN_VALUE;
    static final int HIGHEST = Integer.MAX_VALUE;

    /** A call, or several, with one answer. */
    interface Call {
        long on(DigitRows x);
    }

    static void refused(String what, DigitRows x, long want, Call call) {
        String before = state(x);
        CHECKS.due(what, call.on(x), want);
        CHECKS.due(what + ": nothing changes", state(x).equals(before), true);
    }

    static int size(String decimal) {
        return decimal.startsWith("-") ? decimal.length() - 1 : decimal.length();
    }

    static DigitRows bytes(int... all) {
        DigitRows x = new DigitRows();
        putBytes(x, 0, all);
        return x;
    }

    static DigitRows filled(int b) {
        DigitRows x = new DigitRows();
        for (int i = 0; i < 256; i++) {
            x.put(i, b);
        }
        return x;
    }

    /** A new object with one decimal at 0 and one at 32, put byte by byte. */
    static DigitRows two(String a, String b) {
        DigitRows x = new DigitRows();
        putDecimal(x, 0, a);
        putDecimal(x, 32, b);
        return x;
    }

    static void putBytes(DigitRows x, int at, int... all) {
        for (int i = 0; i < all.length; i++) {
            x.put(at + i, all[i]);
        }
    }

    static void putDecimal(DigitRows x, int at, String decimal) {
        putDecimal(x, at, decimal, decimal.startsWith("-") ? 13 : 12);
    }

    static void putDecimal(DigitRows x, int at, String decimal, int sign) {
        int n = size(decimal);
        String halves = (n % 2 == 0 ? "0" : "") + decimal.substring(decimal.length() - n)
            + Integer.toHexString(sign);
        for (int i = 0; i < halves.length(); i += 2) {
            x.put(at + i / 2, Integer.parseInt(halves.substring(i, i + 2), 16));
        }
    }

    static void putText(DigitRows x, int at, String text) {
        for (int i = 0; i < text.length(); i++) {
            x.put(at + i, text.charAt(i));
        }
    }

    /** A pattern that takes n digits, and each of them as it is. */
    static void putPattern(DigitRows x, int at, int n) {
        int left = n;
        int to = at;
        x.put(to++, 2);
        while (left > 0) {
            int many = Math.min(15, left);
            x.put(to++, 144 + many);
            left -= many;
        }
        x.put(to, 0);
    }

    /** The n digits at a place with their sign; anything but the form that is due shows as hex. */
    static String decimal(DigitRows x, int n, int at) {
        String halves = hex(x, at, n / 2 + 1);
        if (n % 2 == 0) {
            if (halves.charAt(0) != '0') {
                return halves;
            }
            halves = halves.substring(1);
        }
        char sign = halves.charAt(n);
        String shown = sign == 'c' ? "+" : sign == 'd' ? "-" : "?";
        return shown + halves.substring(0, n);
    }

    static String hex(DigitRows x, int at, int many) {
        StringBuilder all = new StringBuilder();
        for (int i = 0; i < many; i++) {
            int b = x.byteOf(at + i);
            all.append(b < 0 ? "--" : Integer.toHexString(256 + b).substring(1));
        }
        return all.toString();
    }

    static String text(DigitRows x, int at, int many) {
        StringBuilder all = new StringBuilder();
        for (int i = 0; i < many; i++) {
            all.append((char) x.byteOf(at + i));
        }
        return all.toString();
    }

    static String dump(DigitRows x) {
        return hex(x, 0, 256);
    }

    /** All that can be seen of an object. */
    static String state(DigitRows x) {
        return text(x, 0, 256) + x.significant();
    }

    static void checkEdit(String a, String want, int... pattern) {
        DigitRows x = two(a, "");
        putBytes(x, 64, pattern);
        String what = "14: " + a + " by " + java.util.Arrays.toString(pattern);
        CHECKS.due(what, x.edit(size(a), 0, 64, 160), want.length());
        CHECKS.due(what, text(x, 160, want.length()), want);
        CHECKS.due(what + ": the byte behind", x.byteOf(160 + want.length()), 0);
    }

    static void checkFault(String a, int... pattern) {
        DigitRows x = two(a, "");
        putBytes(x, 64, pattern);
        String what = "14: fault of " + a + " by " + java.util.Arrays.toString(pattern);
        refused(what, x, -2, y -> y.edit(size(a), 0, 64, 160));
        refused(what + ": ahead of b", x, -2, y -> y.edit(size(a), 0, 64, 257));
    }
}
