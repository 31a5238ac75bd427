import java.math.BigInteger;

/**
 * The document's boundaries of what is worked out and written: too long or not, 0 or not, below 0
 * or not, towards 0, what carries, what wraps around, and what lies over what is read.
 */
public final class ResultBoundaryTest extends MemoryTestKit {
    private static final int A = 0;
    private static final int B = 32;
    private static final int C = 64;
    private static final int[] SIGNS = {10, 11, 12, 13, 14, 15};

    public static void main(String[] args) {
        allIsZeroAtFirst();
        zeroIsZeroWithAnySign();
        sumsTooLong();
        lessTooLong();
        productsTooLong();
        quotientsTooLong();
        shiftsTooLong();
        numbersTooLong();
        charactersAndDigitsTooLong();
        onlyNoughtsAreNotLost();
        everyLostDigitIsSeen();
        whatIsZeroThenHasPlus();
        firstHalfOfEvenIsWritten0();
        sumsAboutZero();
        quotientsAreTowardsZero();
        whatGoesOutAtTheRight();
        whatTheRoundCarries();
        compareBothSides();
        numberAtItsEnds();
        valueWrapsAround();
        everyOverlapOfWork();
        everyOverlapOfCharacters();
        the512thCall();
        CHECKS.end();
    }

    private static void allIsZeroAtFirst() {
        DigitRows used = filled(0xEE);
        DigitRows x = new DigitRows();
        for (int i = 0; i < 256; i++) {
            CHECKS.due("1: byte " + i, x.byteOf(i), 0);
        }
        CHECKS.due("1: another object is left alone", used.byteOf(0), 0xEE);
        refused("1: a new object has no decimal", new DigitRows(), -2, y -> y.compare(0, 0, 0, 0));
        CHECKS.due("15: of a new object", new DigitRows().significant(), false);
    }

    private static void zeroIsZeroWithAnySign() {
        for (int n = 0; n <= 31; n++) {
            for (int sign : SIGNS) {
                checkZero(n, sign);
            }
        }
        for (int one : SIGNS) {
            for (int other : SIGNS) {
                DigitRows x = new DigitRows();
                putDecimal(x, A, "0", one);
                putDecimal(x, B, "000", other);
                String what = "0 with " + one + " and with " + other;
                CHECKS.due("9: " + what, x.compare(1, A, 3, B), 4);
                CHECKS.due("4: " + what, x.sum(1, A, 3, B, 1, C), 4);
                CHECKS.due("4: " + what, hex(x, C, 1), "0c");
                CHECKS.due("5: " + what, x.less(1, A, 3, B, 1, C), 4);
                CHECKS.due("5: " + what, hex(x, C, 1), "0c");
                CHECKS.due("6: " + what, x.product(1, A, 3, B, 1, C), 4);
                CHECKS.due("6: " + what, hex(x, C, 1), "0c");
            }
        }
    }

    private static void checkZero(int n, int sign) {
        DigitRows x = new DigitRows();
        putDecimal(x, A, "0".repeat(n), sign);
        putDecimal(x, B, "-5");
        String what = n + " noughts with " + sign;
        CHECKS.due("11: " + what, x.value(n, A), 0);
        CHECKS.due("9: " + what + " and -5", x.compare(n, A, 1, B), 0);
        CHECKS.due("9: -5 and " + what, x.compare(1, B, n, A), 8);
        CHECKS.due("7: by " + what, x.quotient(n, A, 1, B, 1, C), -3);
        CHECKS.due("7: of " + what, x.quotient(1, B, n, A, 1, C), 4);
        CHECKS.due("7: of " + what, hex(x, C, 1), "0c");
        CHECKS.due("8: " + what, x.shift(n, A, 1, 0, 1, C), 4);
        CHECKS.due("8: " + what, hex(x, C, 1), "0c");
        CHECKS.due("8: to the right " + what, x.shift(n, A, -1, 9, 1, C), 4);
        CHECKS.due("8: to the right " + what, hex(x, C, 1), "0c");
        CHECKS.due("12: " + what, x.characters(n, A, 1, C), 4);
        CHECKS.due("12: " + what, text(x, C, 2), "+0");
        putBytes(x, 128, 3, 5, '+', 3, 6, '-', 3, 0);
        putPattern(x, 135, n);
        CHECKS.due("14: " + what, x.edit(n, A, 128, C), 3 + n);
        CHECKS.due("14: " + what, text(x, C, 3), " ++");
    }

    private static String one(int noughts) {
        return "1" + "0".repeat(noughts);
    }

    private static void sumsTooLong() {
        for (int k = 0; k <= 31; k++) {
            String nines = "9".repeat(k);
            checkWork("sum", nines, "0", k, k == 0 ? 4 : 0, "+" + nines);
            checkWork("sum", nines, "1", k, 6, "+" + "0".repeat(k));
            checkWork("sum", "-" + nines, "-1", k, 6, "+" + "0".repeat(k));
            checkWork("sum", nines, "2", k, k == 0 ? 6 : 2, "+" + lowest("1", k));
            checkWork("sum", "-" + nines, "-2", k, k == 0 ? 6 : 10, sign(k) + lowest("1", k));
        }
        checkWork("sum", NINES, NINES, 31, 2, "+" + "9".repeat(30) + "8");
        checkWork("sum", "-" + NINES, "-" + NINES, 31, 10, "-" + "9".repeat(30) + "8");
    }

    private static String lowest(String digits, int k) {
        String all = "0".repeat(31) + digits;
        return all.substring(all.length() - k);
    }

    private static String sign(int k) {
        return k == 0 ? "+" : "-";
    }

    private static void lessTooLong() {
        for (int k = 0; k <= 31; k++) {
            String nines = "9".repeat(k);
            checkWork("less", "0", "-" + nines, k, k == 0 ? 4 : 8, sign(k) + nines);
            checkWork("less", "1", "-" + nines, k, 6, "+" + "0".repeat(k));
            checkWork("less", "-1", nines, k, 6, "+" + "0".repeat(k));
            checkWork("less", "2", "-" + nines, k, k == 0 ? 6 : 10, sign(k) + lowest("1", k));
        }
    }

    private static void productsTooLong() {
        for (int k = 1; k <= 31; k++) {
            checkWork("product", one(k - 1), "-1", k, 8, "-" + one(k - 1));
            checkWork("product", one(k - 1), "-10", k, 6, "+" + "0".repeat(k));
            checkWork("product", "-" + one(k - 1), "11", k, 10, "-" + one(k - 1));
        }
        checkWork("product", "1", "1", 0, 6, "+");
        checkWork("product", "1", "0", 0, 4, "+");
        // The only digit of the product that is not 0 is its 62nd.
        checkWork("product", "5" + "0".repeat(30), "4" + "0".repeat(30), 31, 6, "+" + "0".repeat(31));
        checkWork("product", NINES, NINES, 31, 2, "+" + lowest("1", 31));
        checkWork("product", NINES, "-" + NINES, 31, 10, "-" + lowest("1", 31));
    }

    private static void quotientsTooLong() {
        for (int k = 0; k <= 30; k++) {
            String nines = "9".repeat(k);
            checkWork("quotient", "-1", nines, k, k == 0 ? 4 : 8, sign(k) + nines);
            checkWork("quotient", "-1", one(k), k, 6, "+" + "0".repeat(k));
            checkWork("quotient", "-1", one(k), k + 1, 8, "-" + one(k));
        }
        checkWork("quotient", "-1", NINES, 31, 8, "-" + NINES);
    }

    private static void checkWork(String name, String a, String b, int k, int flags, String want) {
        DigitRows x = filled(0xEE);
        putDecimal(x, A, a);
        putDecimal(x, B, b);
        String what = name + " of " + a + " and " + b + " in " + k;
        CHECKS.due(what, work(name, x, size(a), A, size(b), B, k, C), flags);
        CHECKS.due(what, decimal(x, k, C), want);
        CHECKS.due(what + ": ahead", x.byteOf(C - 1), 0xEE);
        CHECKS.due(what + ": behind", x.byteOf(C + k / 2 + 1), 0xEE);
    }

    private static int work(String name, DigitRows x, int n, int a, int m, int b, int k, int c) {
        switch (name) {
            case "sum":
                return x.sum(n, a, m, b, k, c);
            case "less":
                return x.less(n, a, m, b, k, c);
            case "product":
                return x.product(n, a, m, b, k, c);
            default:
                return x.quotient(n, a, m, b, k, c);
        }
    }

    private static void shiftsTooLong() {
        for (int m = 1; m <= 31; m++) {
            checkShift("-1", m - 1, 9, m, 8, "-" + one(m - 1));
            checkShift("-1", m, 9, m, 6, "+" + "0".repeat(m));
            checkShift("-11", m - 1, 9, m, 10, "-" + one(m - 1));
        }
        for (int by = 31; by <= 99; by++) {
            checkShift("1", by, 9, 31, 6, "+" + "0".repeat(31));
            checkShift(one(30), by, 9, 31, 6, "+" + "0".repeat(31));
            checkShift("0", by, 9, 31, 4, "+" + "0".repeat(31));
        }
        checkShift("1", 0, 9, 0, 6, "+");
    }

    private static void checkShift(String a, int by, int up, int m, int flags, String want) {
        DigitRows x = filled(0xEE);
        putDecimal(x, A, a);
        String what = "8: " + a + " by " + by + " up " + up + " in " + m;
        CHECKS.due(what, x.shift(size(a), A, by, up, m, C), flags);
        CHECKS.due(what, decimal(x, m, C), want);
    }

    private static void numbersTooLong() {
        int ten = 1;
        for (int n = 0; n <= 9; n++) {
            checkNumber(ten - 1, n, n == 0 ? 4 : 0, "+" + "9".repeat(n));
            checkNumber(1 - ten, n, n == 0 ? 4 : 8, sign(n) + "9".repeat(n));
            checkNumber(ten, n, 6, "+" + "0".repeat(n));
            checkNumber(-ten, n, 6, "+" + "0".repeat(n));
            checkNumber(-ten, n + 1, 8, "-" + one(n));
            ten *= 10;
        }
    }

    private static void checkNumber(int v, int n, int flags, String want) {
        DigitRows x = filled(0xEE);
        CHECKS.due("10: " + v + " in " + n, x.number(v, n, C), flags);
        CHECKS.due("10: " + v + " in " + n, decimal(x, n, C), want);
    }

    private static void charactersAndDigitsTooLong() {
        for (int m = 0; m <= 30; m++) {
            String nines = "9".repeat(m);
            checkBoth("-" + nines, m, m == 0 ? 4 : 8, sign(m) + nines);
            checkBoth("-" + one(m), m, 6, "+" + "0".repeat(m));
            checkBoth("-" + one(m), m + 1, 8, "-" + one(m));
            checkBoth("-" + "0".repeat(31 - m) + nines, m, m == 0 ? 4 : 8, sign(m) + nines);
        }
        checkBoth("-" + NINES, 31, 8, "-" + NINES);
    }

    /** The same decimal by characters() and, from characters, by digits(). */
    private static void checkBoth(String a, int m, int flags, String want) {
        DigitRows x = filled(0xEE);
        putDecimal(x, A, a);
        CHECKS.due("12: " + a + " in " + m, x.characters(size(a), A, m, C), flags);
        CHECKS.due("12: " + a + " in " + m, text(x, C, m + 1), want);
        CHECKS.due("12: behind " + a + " in " + m, x.byteOf(C + m + 1), 0xEE);
        DigitRows y = filled(0xEE);
        putText(y, A, a.startsWith("-") ? a : "+" + a);
        CHECKS.due("13: " + a + " in " + m, y.digits(size(a), A, m, C), flags);
        CHECKS.due("13: " + a + " in " + m, decimal(y, m, C), want);
    }

    private static void onlyNoughtsAreNotLost() {
        for (int k = 1; k <= 31; k++) {
            String long5 = "0".repeat(30) + "5";
            checkWork("sum", long5, "-0", k, 0, "+" + lowest("5", k));
            checkWork("less", long5, "-0", k, 8, "-" + lowest("5", k));
            checkWork("product", long5, "1", k, 0, "+" + lowest("5", k));
            checkWork("quotient", "1", long5, k, 0, "+" + lowest("5", k));
            checkShift(long5, 0, 9, k, 0, "+" + lowest("5", k));
            checkBoth(long5, k, 0, "+" + lowest("5", k));
            checkNumber(5, k, 0, "+" + lowest("5", k));
        }
    }

    private static void everyLostDigitIsSeen() {
        for (int k = 0; k <= 30; k++) {
            for (int j = k; j <= 30; j++) {
                checkWork("sum", one(j), "", k, 6, "+" + "0".repeat(k));
                checkWork("less", "", one(j), k, 6, "+" + "0".repeat(k));
                checkWork("product", one(j), "1", k, 6, "+" + "0".repeat(k));
                checkWork("quotient", "1", one(j), k, 6, "+" + "0".repeat(k));
                checkShift(one(j), 0, 0, k, 6, "+" + "0".repeat(k));
                checkBoth(one(j), k, 6, "+" + "0".repeat(k));
            }
        }
    }

    private static void whatIsZeroThenHasPlus() {
        checkWork("sum", "-60", "-40", 2, 6, "+00");
        checkWork("sum", "-60", "-41", 2, 10, "-01");
        checkWork("less", "40", "-60", 2, 6, "+00");
        checkWork("less", "41", "-60", 2, 10, "-01");
        checkWork("product", "-20", "5", 2, 6, "+00");
        checkWork("product", "-7", "43", 2, 10, "-01");
        checkWork("quotient", "-2", "200", 2, 6, "+00");
        checkWork("quotient", "-2", "202", 2, 10, "-01");
        checkWork("quotient", "-2", "1", 2, 4, "+00");
        checkShift("-100", 0, 0, 2, 6, "+00");
        checkShift("-101", 0, 0, 2, 10, "-01");
        checkShift("-9", -1, 0, 2, 4, "+00");
        checkNumber(-100, 2, 6, "+00");
        checkNumber(-101, 2, 10, "-01");
        checkBoth("-100", 2, 6, "+00");
        checkBoth("-101", 2, 10, "-01");
    }

    private static void firstHalfOfEvenIsWritten0() {
        for (int k = 0; k <= 30; k += 2) {
            String nines = "9".repeat(k);
            int flags = k == 0 ? 6 : 2;
            checkWork("sum", NINES, "", k, flags, "+" + nines);
            checkWork("less", "", NINES, k, flags, "+" + nines);
            checkWork("product", NINES, "1", k, flags, "+" + nines);
            checkWork("quotient", "1", NINES, k, flags, "+" + nines);
            checkShift(NINES, 0, 0, k, flags, "+" + nines);
            checkNumber(999999999, Math.min(k, 8), flags, "+" + "9".repeat(Math.min(k, 8)));
            checkBoth(NINES, k, flags, "+" + nines);
        }
    }

    private static void sumsAboutZero() {
        for (int n = 1; n <= 31; n++) {
            String nines = "9".repeat(n);
            String low = lowest("1", n);
            checkWork("sum", "-" + nines, nines, n, 4, "+" + "0".repeat(n));
            checkWork("sum", nines, "-" + nines, n, 4, "+" + "0".repeat(n));
            checkWork("less", nines, nines, n, 4, "+" + "0".repeat(n));
            checkWork("less", "-" + nines, "-" + nines, n, 4, "+" + "0".repeat(n));
            checkWork("sum", "-" + one(n - 1), one(n - 1).replaceAll(".$", n == 1 ? "2" : "1"), n, 0,
                "+" + low);
            checkWork("less", one(n - 1).replaceAll(".$", n == 1 ? "2" : "1"), one(n - 1), n, 8,
                "-" + low);
            String borrowed = n == 1 ? "0" : "0" + "9".repeat(n - 1);
            checkWork("less", "1", one(n - 1), n, n == 1 ? 4 : 0, "+" + borrowed);
            checkWork("sum", "1", "-" + one(n - 1), n, n == 1 ? 4 : 8, (n == 1 ? "+" : "-") + borrowed);
        }
    }

    private static void quotientsAreTowardsZero() {
        checkWork("quotient", "7", "6", 1, 4, "+0");
        checkWork("quotient", "7", "7", 1, 0, "+1");
        checkWork("quotient", "7", "13", 1, 0, "+1");
        checkWork("quotient", "7", "14", 1, 0, "+2");
        checkWork("quotient", "7", "-6", 1, 4, "+0");
        checkWork("quotient", "7", "-7", 1, 8, "-1");
        checkWork("quotient", "7", "-13", 1, 8, "-1");
        checkWork("quotient", "7", "-14", 1, 8, "-2");
        checkWork("quotient", "-7", "13", 1, 8, "-1");
        checkWork("quotient", "-7", "14", 1, 8, "-2");
        checkWork("quotient", "-7", "-13", 1, 0, "+1");
        checkWork("quotient", "-7", "-14", 1, 0, "+2");
        checkWork("quotient", NINES, NINES, 1, 0, "+1");
        checkWork("quotient", NINES, "-" + "9".repeat(30) + "8", 1, 4, "+0");
        checkWork("quotient", "-" + "9".repeat(30) + "8", NINES, 1, 8, "-1");
        for (int n = 1; n <= 30; n++) {
            checkWork("quotient", one(n), "9".repeat(n), 1, 4, "+0");
            checkWork("quotient", one(n), one(n), 1, 0, "+1");
            checkWork("quotient", "9".repeat(n), one(n), 1, 0, "+1");
            checkWork("quotient", one(n), NINES, 31, 0, "+" + "0".repeat(n) + "9".repeat(31 - n));
        }
    }

    /** All that a shift lets go out at the right, the flag 2 does not see. */
    private static void whatGoesOutAtTheRight() {
        for (int by = 1; by <= 30; by++) {
            String left = "9".repeat(31 - by);
            checkShift(NINES, -by, 0, 31 - by, 0, "+" + left);
            checkShift("-" + NINES, -by, 0, 31 - by, 8, "-" + left);
            checkShift(NINES, -by, 0, 30 - by, by == 30 ? 6 : 2, "+" + left.substring(1));
        }
        for (int by = 31; by <= 99; by++) {
            checkShift(NINES, -by, 0, 31, 4, "+" + "0".repeat(31));
            checkShift("-" + NINES, -by, 0, 0, 4, "+");
        }
    }

    private static void whatTheRoundCarries() {
        for (int digit = 0; digit <= 9; digit++) {
            for (int up = 0; up <= 9; up++) {
                boolean carries = digit + up >= 10;
                checkShift("4" + digit, -1, up, 1, 0, carries ? "+5" : "+4");
                checkShift("-4" + digit, -1, up, 1, 8, carries ? "-5" : "-4");
                checkShift("-" + digit, -1, up, 1, carries ? 8 : 4, carries ? "-1" : "+0");
                checkShift("4" + digit + "9", -2, up, 1, 0, carries ? "+5" : "+4");
                checkShift("4" + digit, 0, up, 2, 0, "+4" + digit);
                checkShift("4" + digit, 1, up, 3, 0, "+4" + digit + "0");
            }
        }
        for (int n = 1; n <= 31; n++) {
            String nines = "9".repeat(n);
            checkShift(nines, -1, 1, n, 0, "+" + one(n - 1));
            checkShift(nines, -1, 1, n - 1, 6, "+" + "0".repeat(n - 1));
            checkShift("-" + nines, -1, 1, n - 1, 6, "+" + "0".repeat(n - 1));
            checkShift(nines, -n, 1, 1, 0, "+1");
            checkShift(nines, -n, 0, 1, 4, "+0");
            checkShift(nines, -n, 1, 0, 6, "+");
            checkShift(nines, -n - 1, 9, 1, 4, "+0");
        }
    }

    private static void compareBothSides() {
        String[] rising = {"-" + NINES, "-" + "9".repeat(30) + "8", "-" + "9".repeat(30), "-10", "-9",
            "-1", "0", "1", "9", "10", "9".repeat(30), "9".repeat(30) + "8", NINES};
        for (int i = 0; i < rising.length; i++) {
            for (int j = 0; j < rising.length; j++) {
                checkCompare(rising[i], rising[j], i < j ? 8 : i == j ? 4 : 0);
            }
        }
        for (int n = 1; n <= 31; n++) {
            DigitRows x = two("0".repeat(31 - n) + "9".repeat(n), "9".repeat(n));
            CHECKS.due("9: " + n + " nines, padded", x.compare(31, A, n, B), 4);
        }
    }

    private static void checkCompare(String a, String b, int flags) {
        refused("9: " + a + " and " + b, two(a, b), flags, x -> x.compare(size(a), A, size(b), B));
    }

    private static void numberAtItsEnds() {
        checkNumber(HIGHEST, 10, 0, "+2147483647");
        checkNumber(HIGHEST, 9, 2, "+147483647");
        checkNumber(LOWEST, 10, 8, "-2147483648");
        checkNumber(LOWEST, 9, 10, "-147483648");
        checkNumber(LOWEST + 1, 31, 8, "-" + lowest("2147483647", 31));
        checkNumber(LOWEST, 31, 8, "-" + lowest("2147483648", 31));
        checkNumber(LOWEST, 0, 6, "+");
        checkNumber(0, 31, 4, "+" + "0".repeat(31));
        checkNumber(-1, 31, 8, "-" + lowest("1", 31));
        checkNumber(1, 31, 0, "+" + lowest("1", 31));
    }

    private static void valueWrapsAround() {
        for (int power : new int[] {31, 32, 62, 63, 64, 65, 96, 102}) {
            BigInteger edge = BigInteger.TWO.pow(power);
            for (int off = -1; off <= 1; off++) {
                checkValue(edge.add(BigInteger.valueOf(off)));
                checkValue(edge.add(BigInteger.valueOf(off)).negate());
            }
        }
        checkValue(new BigInteger(NINES));
        checkValue(new BigInteger("-" + NINES));
        CHECKS.due("11: the highest long", two("9223372036854775807", "").value(19, A), Long.MAX_VALUE);
        CHECKS.due("11: one more", two("9223372036854775808", "").value(19, A), Long.MIN_VALUE);
        CHECKS.due("11: the lowest long", two("-9223372036854775808", "").value(19, A), Long.MIN_VALUE);
        CHECKS.due("11: one less", two("-9223372036854775809", "").value(19, A), Long.MAX_VALUE);
        CHECKS.due("11: 2 to the 64th", two("18446744073709551616", "").value(20, A), 0L);
    }

    private static void checkValue(BigInteger v) {
        String told = v.toString();
        refused("11: " + told, two(told, ""), v.longValue(), x -> x.value(size(told), A));
    }

    /** A result at every place over the two decimals is the one that it is far from them. */
    private static void everyOverlapOfWork() {
        String a = "-1234567890987";
        String b = "9876543210123456789";
        int n = size(a);
        int m = size(b);
        for (int k : new int[] {0, 1, 12, 19, 30, 31}) {
            for (String name : new String[] {"sum", "less", "product", "quotient"}) {
                checkOverlap(name + " in " + k, a, b, k / 2 + 1,
                    (x, at) -> work(name, x, n, 100, m, 110, k, at));
            }
            checkOverlap("shift in " + k, a, b, k / 2 + 1, (x, at) -> x.shift(m, 110, -3, 5, k, at));
            checkOverlap("shift left in " + k, a, b, k / 2 + 1, (x, at) -> x.shift(m, 110, 7, 0, k, at));
        }
    }

    private interface AtPlace {
        long on(DigitRows x, int at);
    }

    private static void checkOverlap(String what, String a, String b, int many, AtPlace call) {
        DigitRows far = new DigitRows();
        putDecimal(far, 100, a);
        putDecimal(far, 110, b);
        String before = dump(far);
        long answer = call.on(far, 200);
        for (int at = 60; at <= 125; at++) {
            DigitRows x = new DigitRows();
            putDecimal(x, 100, a);
            putDecimal(x, 110, b);
            CHECKS.due(what + " at " + at, call.on(x, at), answer);
            CHECKS.due(what + " at " + at, dump(x), before.substring(0, 2 * at) + hex(far, 200, many)
                + before.substring(2 * (at + many)));
        }
    }

    private static void everyOverlapOfCharacters() {
        String a = "-1234567890987";
        String b = "9876543210123456789";
        for (int m : new int[] {0, 1, 13, 30, 31}) {
            checkOverlap("characters in " + m, a, b, m + 1, (x, at) -> x.characters(13, 100, m, at));
        }
        for (int m : new int[] {0, 1, 18, 30, 31}) {
            DigitRows far = new DigitRows();
            putText(far, 100, "-123456789012345678");
            String before = dump(far);
            long answer = far.digits(18, 100, m, 200);
            for (int at = 80; at <= 120; at++) {
                DigitRows x = new DigitRows();
                putText(x, 100, "-123456789012345678");
                CHECKS.due("digits in " + m + " at " + at, x.digits(18, 100, m, at), answer);
                CHECKS.due("digits in " + m + " at " + at, dump(x), before.substring(0, 2 * at)
                    + hex(far, 200, m / 2 + 1) + before.substring(2 * (at + m / 2 + 1)));
            }
        }
    }

    /** The first 512 calls are all promised: each product doubles what the last one left. */
    private static void the512thCall() {
        DigitRows x = new DigitRows();
        x.number(1, 31, A);
        x.number(2, 1, B);
        BigInteger due = BigInteger.ONE;
        BigInteger most = BigInteger.TEN.pow(31);
        for (int call = 3; call <= 511; call++) {
            BigInteger twice = due.add(due);
            due = twice.mod(most);
            CHECKS.due("call " + call, x.product(1, B, 31, A, 31, A), twice.equals(due) ? 0 : 2);
        }
        CHECKS.due("call 512", x.value(31, A), due.longValue());
    }
}
