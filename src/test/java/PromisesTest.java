/** The promises one by one: ordinary inputs, the edges that the document names, wrong inputs. */
public final class PromisesTest extends MemoryTestKit {
    public static void main(String[] args) {
        newObject();
        putAndByteOf();
        decimalsAsTheyAreRead();
        decimalsAsTheyAreWritten();
        sum();
        less();
        product();
        quotient();
        shift();
        compare();
        number();
        value();
        characters();
        digits();
        editWrites();
        editFaults();
        editPlaces();
        significant();
        refusals();
        unreadable();
        overlaps();
        shortAfterLong();
        CHECKS.end();
    }

    private static void newObject() {
        DigitRows x = new DigitRows();
        for (int i = 0; i < 256; i++) {
            CHECKS.due("1: byteOf(" + i + ")", x.byteOf(i), 0);
        }
        x.put(7, 9);
        CHECKS.due("1: another object's byte", new DigitRows().byteOf(7), 0);
        CHECKS.due("1: significant", x.significant(), false);
    }

    private static void putAndByteOf() {
        DigitRows x = new DigitRows();
        for (int i = 0; i < 256; i++) {
            CHECKS.due("2: put " + i, x.put(i, 255 - i), true);
        }
        for (int i = 0; i < 256; i++) {
            CHECKS.due("3: byteOf " + i, x.byteOf(i), 255 - i);
        }
        x.put(3, -1);
        CHECKS.due("2: put -1", x.byteOf(3), 255);
        x.put(3, 256 + 17);
        CHECKS.due("2: put 273", x.byteOf(3), 17);
        x.put(3, LOWEST);
        CHECKS.due("2: put lowest", x.byteOf(3), 0);
        for (int at : new int[] {-1, 256, 257, LOWEST, HIGHEST}) {
            String before = dump(x);
            CHECKS.due("2: put at " + at, x.put(at, 1), false);
            CHECKS.due("2: memory after put at " + at, dump(x), before);
            CHECKS.due("3: byteOf at " + at, x.byteOf(at), -1);
        }
    }

    private static void decimalsAsTheyAreRead() {
        for (int sign = 0; sign < 16; sign++) {
            DigitRows x = bytes(0x12, 0x30 + sign);
            boolean minus = sign == 11 || sign == 13;
            CHECKS.due("11: sign " + sign, x.value(3, 0), sign < 10 ? 0 : minus ? -123 : 123);
            CHECKS.due("9: sign " + sign, x.compare(3, 0, 3, 0), sign < 10 ? -2 : 4);
        }
        CHECKS.due("even: the first half is not looked at", bytes(0xF2, 0x3C).value(2, 0), 23);
        CHECKS.due("no digits: only a sign", bytes(0xFD).compare(0, 0, 0, 0), 4);
        CHECKS.due("no digits: no sign", bytes(0xF9).compare(0, 0, 0, 0), -2);
        CHECKS.due("a high half of 10", bytes(0xA2, 0x3C).compare(3, 0, 3, 0), -2);
        CHECKS.due("a low half of 10", bytes(0x1A, 0x3C).compare(3, 0, 3, 0), -2);
        CHECKS.due("a last digit of 10", bytes(0x12, 0xAC).compare(3, 0, 3, 0), -2);
        CHECKS.due("a low half of 10, n even", bytes(0x1A, 0x3C).compare(2, 0, 2, 0), -2);
        CHECKS.due("-0 is 0", bytes(0x0D, 0x0C).compare(1, 0, 1, 1), 4);
        CHECKS.due("0 with 11 is not below 1", bytes(0x0B, 0x1C).compare(1, 1, 1, 0), 0);
    }

    private static void decimalsAsTheyAreWritten() {
        DigitRows x = filled(0xFF);
        x.number(123, 3, 10);
        CHECKS.due("3 digits", hex(x, 9, 4), "ff123cff");
        x.number(-45, 2, 20);
        CHECKS.due("2 digits: first half 0", hex(x, 19, 4), "ff045dff");
        x.number(7, 0, 30);
        CHECKS.due("0 digits", hex(x, 29, 3), "ff0cff");
        x.number(-7, 1, 255);
        CHECKS.due("1 digit at the last byte", x.byteOf(255), 0x7D);
        CHECKS.due("-100 in 2 digits", x.number(-100, 2, 40), 6);
        CHECKS.due("-100 in 2 digits", hex(x, 39, 4), "ff000cff");
        x.number(5, 31, 100);
        CHECKS.due("31 digits", hex(x, 99, 18), "ff" + "00".repeat(15) + "5cff");
    }

    private static void sum() {
        checkSum("5", "7", 2, 0, "+12");
        checkSum("5", "7", 1, 2, "+2");
        checkSum("5", "5", 1, 6, "+0");
        checkSum("-5", "-5", 1, 6, "+0");
        checkSum("-5", "7", 2, 0, "+02");
        checkSum("5", "-7", 2, 8, "-02");
        checkSum("5", "-5", 3, 4, "+000");
        checkSum("-5", "-7", 3, 8, "-012");
        checkSum("1000", "-1", 4, 0, "+0999");
        checkSum(NINES, "1", 31, 6, "+" + "0".repeat(31));
        checkSum(NINES, NINES, 31, 2, "+" + "9".repeat(30) + "8");
        checkSum("-" + NINES, NINES, 31, 4, "+" + "0".repeat(31));
        checkSum("5", "7", 0, 6, "+");
        checkSum("", "", 0, 4, "+");
        checkSum("-0", "-0", 1, 4, "+0");
    }

    private static void checkSum(String a, String b, int k, int flags, String want) {
        DigitRows x = two(a, b);
        String what = "4: " + a + " and " + b + " in " + k;
        CHECKS.due(what, x.sum(size(a), 0, size(b), 32, k, 64), flags);
        CHECKS.due(what, decimal(x, k, 64), want);
    }

    private static void less() {
        checkLess("5", "7", 2, 0, "+02");
        checkLess("7", "5", 2, 8, "-02");
        checkLess("-5", "7", 2, 0, "+12");
        checkLess("5", "-7", 2, 8, "-12");
        checkLess("-5", "-5", 1, 4, "+0");
        checkLess("0", "-5", 1, 8, "-5");
        checkLess("5", "0", 1, 8, "-5");
        checkLess("-0", "0", 1, 4, "+0");
        checkLess("1", "-" + NINES, 31, 6, "+" + "0".repeat(31));
        checkLess("1", "1" + "0".repeat(30), 31, 0, "+0" + "9".repeat(30));
    }

    private static void checkLess(String a, String b, int k, int flags, String want) {
        DigitRows x = two(a, b);
        String what = "5: " + b + " less " + a + " in " + k;
        CHECKS.due(what, x.less(size(a), 0, size(b), 32, k, 64), flags);
        CHECKS.due(what, decimal(x, k, 64), want);
    }

    private static void product() {
        checkProduct("12", "-12", 3, 8, "-144");
        checkProduct("-12", "-12", 3, 0, "+144");
        checkProduct("12", "-12", 2, 10, "-44");
        checkProduct("-50", "20", 3, 6, "+000");
        checkProduct("-50", "0", 3, 4, "+000");
        checkProduct(NINES, NINES, 31, 2, "+" + "0".repeat(30) + "1");
        checkProduct(NINES, "-" + NINES, 31, 10, "-" + "0".repeat(30) + "1");
        checkProduct("1" + "0".repeat(30), "1" + "0".repeat(30), 31, 6, "+" + "0".repeat(31));
        checkProduct("1" + "0".repeat(30), "1", 31, 0, "+1" + "0".repeat(30));
    }

    private static void checkProduct(String a, String b, int k, int flags, String want) {
        DigitRows x = two(a, b);
        String what = "6: " + a + " times " + b + " in " + k;
        CHECKS.due(what, x.product(size(a), 0, size(b), 32, k, 64), flags);
        CHECKS.due(what, decimal(x, k, 64), want);
    }

    private static void quotient() {
        checkQuotient("7", "20", 2, 0, "+02");
        checkQuotient("-7", "20", 2, 8, "-02");
        checkQuotient("7", "-20", 2, 8, "-02");
        checkQuotient("-7", "-20", 2, 0, "+02");
        checkQuotient("7", "-6", 2, 4, "+00");
        checkQuotient("1", "-100", 2, 6, "+00");
        checkQuotient("1", "-123", 2, 10, "-23");
        checkQuotient(NINES, NINES, 1, 0, "+1");
        checkQuotient("1", NINES, 31, 0, "+" + NINES);
        checkQuotient("3", NINES, 31, 0, "+" + "3".repeat(31));
        checkQuotient("5" + "0".repeat(30), NINES, 2, 0, "+01");
        checkQuotient("7", "0", 1, 4, "+0");
        for (String zero : new String[] {"0", "-0", "", "000"}) {
            DigitRows x = two(zero, "20");
            String before = dump(x);
            CHECKS.due("7: by " + zero, x.quotient(size(zero), 0, 2, 32, 2, 64), -3);
            CHECKS.due("7: by " + zero, dump(x), before);
            CHECKS.due("7: -1 ahead of -3", x.quotient(size(zero), 0, 2, 32, 32, 64), -1);
            CHECKS.due("7: -2 ahead of -3", x.quotient(size(zero), 0, 2, 200, 2, 64), -2);
        }
    }

    private static void checkQuotient(String a, String b, int k, int flags, String want) {
        DigitRows x = two(a, b);
        String what = "7: " + b + " by " + a + " in " + k;
        CHECKS.due(what, x.quotient(size(a), 0, size(b), 32, k, 64), flags);
        CHECKS.due(what, decimal(x, k, 64), want);
    }

    private static void shift() {
        checkShift("123", 2, 0, 5, 0, "+12300");
        checkShift("123", 2, 9, 5, 0, "+12300");
        checkShift("-123", 2, 0, 4, 10, "-2300");
        checkShift("-123", 0, 9, 3, 8, "-123");
        checkShift("123", 0, 9, 2, 2, "+23");
        checkShift("-123", 3, 0, 3, 6, "+000");
        checkShift("0123", 1, 0, 4, 0, "+1230");
        checkShift("123", 99, 0, 31, 6, "+" + "0".repeat(31));
        checkShift("000", 99, 0, 31, 4, "+" + "0".repeat(31));
        checkShift(NINES, 99, 0, 31, 6, "+" + "0".repeat(31));
        checkShift("1255", -1, 5, 4, 0, "+0126");
        checkShift("1255", -1, 4, 4, 0, "+0125");
        checkShift("-1255", -1, 5, 4, 8, "-0126");
        checkShift("-1255", -1, 4, 4, 8, "-0125");
        checkShift("1255", -2, 5, 4, 0, "+0013");
        checkShift("1249", -2, 5, 4, 0, "+0012");
        checkShift("1249", -2, 9, 4, 0, "+0013");
        checkShift("999", -1, 1, 3, 0, "+100");
        checkShift("999", -1, 1, 2, 6, "+00");
        checkShift("-999", -1, 1, 2, 6, "+00");
        checkShift("999", -3, 1, 1, 0, "+1");
        checkShift("999", -4, 9, 1, 4, "+0");
        checkShift("-199", -3, 5, 1, 4, "+0");
        checkShift("-9", -99, 9, 1, 4, "+0");
        checkShift(NINES, -1, 1, 31, 0, "+1" + "0".repeat(30));
        checkShift(NINES, -31, 1, 31, 0, "+" + "0".repeat(30) + "1");
        checkShift(NINES, -31, 0, 31, 4, "+" + "0".repeat(31));
        checkShift(NINES, -32, 9, 31, 4, "+" + "0".repeat(31));
        for (int by : new int[] {-100, 100, LOWEST, HIGHEST}) {
            checkRefusedShift(by, 0, -1);
        }
        for (int up : new int[] {-1, 10, LOWEST, HIGHEST}) {
            checkRefusedShift(-1, up, -1);
            checkRefusedShift(0, up, -1);
            checkRefusedShift(1, up, -1);
        }
        checkRefusedShift(1, 0, -2);
    }

    private static void checkShift(String a, int by, int up, int m, int flags, String want) {
        DigitRows x = two(a, "");
        String what = "8: " + a + " by " + by + " up " + up + " in " + m;
        CHECKS.due(what, x.shift(size(a), 0, by, up, m, 64), flags);
        CHECKS.due(what, decimal(x, m, 64), want);
    }

    private static void checkRefusedShift(int by, int up, int want) {
        DigitRows x = new DigitRows();
        CHECKS.due("8: no decimal by " + by + " up " + up, x.shift(3, 0, by, up, 3, 64), want);
        CHECKS.due("8: nothing changes", dump(x), dump(new DigitRows()));
    }

    private static void compare() {
        checkCompare("5", "7", 8);
        checkCompare("7", "5", 0);
        checkCompare("-5", "-7", 0);
        checkCompare("-7", "-5", 8);
        checkCompare("-5", "5", 8);
        checkCompare("5", "-5", 0);
        checkCompare("5", "0005", 4);
        checkCompare("-00", "", 4);
        checkCompare("-0", "1", 8);
        checkCompare("-1", "-0", 8);
        checkCompare(NINES, "-" + NINES, 0);
        checkCompare("9".repeat(30), NINES, 8);
    }

    private static void checkCompare(String a, String b, int flags) {
        DigitRows x = two(a, b);
        String before = dump(x);
        CHECKS.due("9: " + a + " with " + b, x.compare(size(a), 0, size(b), 32), flags);
        CHECKS.due("9: nothing changes", dump(x), before);
    }

    private static void number() {
        checkNumber(0, 1, 4, "+0");
        checkNumber(1234, 6, 0, "+001234");
        checkNumber(-1234, 4, 8, "-1234");
        checkNumber(-1234, 3, 10, "-234");
        checkNumber(-1000, 3, 6, "+000");
        checkNumber(HIGHEST, 10, 0, "+2147483647");
        checkNumber(LOWEST, 10, 8, "-2147483648");
        checkNumber(LOWEST, 31, 8, "-" + "0".repeat(21) + "2147483648");
        checkNumber(-1, 0, 6, "+");
        checkNumber(0, 0, 4, "+");
        checkNumber(-1, 1, 8, "-1");
        checkNumber(1, 1, 0, "+1");
    }

    private static void checkNumber(int v, int n, int flags, String want) {
        DigitRows x = new DigitRows();
        CHECKS.due("10: " + v + " in " + n, x.number(v, n, 64), flags);
        CHECKS.due("10: " + v + " in " + n, decimal(x, n, 64), want);
    }

    private static void value() {
        checkValue("", 0L);
        checkValue("-0", 0L);
        checkValue("-12", -12L);
        checkValue("9223372036854775807", Long.MAX_VALUE);
        checkValue("-9223372036854775808", Long.MIN_VALUE);
        checkValue("9223372036854775808", Long.MIN_VALUE);
        checkValue("18446744073709551616", 0L);
        checkValue("-18446744073709551617", -1L);
        java.math.BigInteger most = new java.math.BigInteger(NINES);
        checkValue(NINES, most.longValue());
        checkValue("-" + NINES, most.negate().longValue());
        DigitRows x = two("123", "");
        CHECKS.due("11: of -1 digits", x.value(-1, 0), 0L);
        CHECKS.due("11: of 32 digits", x.value(32, 0), 0L);
        CHECKS.due("11: beyond memory", x.value(3, 255), 0L);
        CHECKS.due("11: no decimal", x.value(3, 100), 0L);
    }

    private static void checkValue(String a, long want) {
        CHECKS.due("11: " + a, two(a, "").value(size(a), 0), want);
    }

    private static void characters() {
        checkCharacters("123", 5, 0, "+00123");
        checkCharacters("-123", 3, 8, "-123");
        checkCharacters("-123", 2, 10, "-23");
        checkCharacters("-100", 2, 6, "+00");
        checkCharacters("-0", 1, 4, "+0");
        checkCharacters("-5", 0, 6, "+");
        checkCharacters("", 0, 4, "+");
        checkCharacters("-" + NINES, 31, 8, "-" + NINES);
        DigitRows x = two("123", "");
        CHECKS.due("12: up to the last byte", x.characters(3, 0, 3, 252), 0);
        CHECKS.due("12: up to the last byte", text(x, 252, 4), "+123");
        CHECKS.due("12: one byte too many", x.characters(3, 0, 3, 253), -1);
        CHECKS.due("12: one sign too many", x.characters(3, 0, 0, 256), -1);
        CHECKS.due("12: at -1", x.characters(3, 0, 3, -1), -1);
        CHECKS.due("12: no decimal", x.characters(3, 100, 3, 0), -2);
        CHECKS.due("12: -1 ahead of -2", x.characters(3, 100, 32, 0), -1);
    }

    private static void checkCharacters(String a, int m, int flags, String want) {
        DigitRows x = two(a, "");
        x.put(63, 1);
        x.put(64 + m + 1, 2);
        String what = "12: " + a + " in " + m;
        CHECKS.due(what, x.characters(size(a), 0, m, 64), flags);
        CHECKS.due(what, text(x, 64, m + 1), want);
        CHECKS.due(what + ": the byte ahead", x.byteOf(63), 1);
        CHECKS.due(what + ": the byte behind", x.byteOf(64 + m + 1), 2);
    }

    private static void digits() {
        checkDigits("+123", 5, 0, "+00123");
        checkDigits(" 123", 3, 0, "+123");
        checkDigits("-123", 3, 8, "-123");
        checkDigits("-123", 2, 10, "-23");
        checkDigits("-100", 2, 6, "+00");
        checkDigits("-0", 1, 4, "+0");
        checkDigits("-", 1, 4, "+0");
        checkDigits("-" + NINES, 31, 8, "-" + NINES);
        for (String none : new String[] {"0123", ",123", "+1 3", "+1/3", "+1:3", "\u0000123", "+12-"}) {
            DigitRows x = new DigitRows();
            putText(x, 0, none);
            String before = dump(x);
            CHECKS.due("13: " + none, x.digits(3, 0, 3, 64), -2);
            CHECKS.due("13: nothing changes", dump(x), before);
        }
        DigitRows x = new DigitRows();
        putText(x, 252, "-123");
        CHECKS.due("13: up to the last byte", x.digits(3, 252, 3, 254), 8);
        CHECKS.due("13: up to the last byte", x.value(3, 254), -123);
        CHECKS.due("13: one byte too many", x.digits(3, 253, 3, 0), -1);
        CHECKS.due("13: one sign too many", x.digits(0, 256, 3, 0), -1);
        CHECKS.due("13: -1 ahead of -2", x.digits(3, 0, 3, 255), -1);
    }

    private static void checkDigits(String from, int m, int flags, String want) {
        DigitRows x = new DigitRows();
        putText(x, 0, from);
        CHECKS.due("13: " + from + " in " + m, x.digits(from.length() - 1, 0, m, 64), flags);
        CHECKS.due("13: " + from + " in " + m, decimal(x, m, 64), want);
    }

    private static void editWrites() {
        checkEdit("", "", 0);
        checkEdit("120", "  120", 130, 147, 0);
        checkEdit("00120", "  120", 149, 0);
        checkEdit("00120", "00120", 2, 149, 0);
        checkEdit("00000", "     ", 149, 0);
        checkEdit("00120", "**120", 4, '*', 149, 0);
        checkEdit("-00120", "  -120", 165, 0);
        checkEdit("00120", "   120", 165, 0);
        checkEdit("-00120", "  1  -20", 147, 1, 130, 162, 0);
        checkEdit("-00120", "00120", 2, 165, 0);
        checkEdit("-01020", " -1 -20", 162, 1, 163, 0);
        checkEdit("-1", "-1", 3, 4, 7, 4, 8, 145, 8, 0, 8, 2, 0);
        checkEdit("12", " 12", 3, 1, 146, 8, 0, 0);
        checkEdit("-12", "-12-", 3, 146, 3, 0);
        checkEdit("12", " 12 ", 3, 146, 3, 0);
        checkEdit("-0", "  ", 3, 145, 0);
        checkEdit("12", "+12", 5, '+', 162, 0);
        checkEdit("-12", "-12", 5, '+', 162, 0);
        checkEdit("12", " 12", 6, '~', 162, 0);
        checkEdit("-12", "~12", 6, '~', 162, 0);
        checkEdit("-00", "++  ", 5, '+', 6, '~', 3, 3, 146, 8, 2, 0);
        checkEdit("1234", "1,234", 145, 7, ',', 147, 0);
        checkEdit("0234", "  234", 145, 7, ',', 147, 0);
        checkEdit("0034", "#.,#34", 4, '#', 145, 2, 7, '.', 7, ',', 1, 147, 0);
        checkEdit("0000", "a#a####", 2, 7, 'a', 1, 4, '#', 7, 'b', 2, 7, 'a', 1, 147, 145, 0);
        checkEdit("000", "00*", 2, 147, 4, '*', 8, 1, 0);
        checkEdit("000", "***", 2, 147, 4, '*', 8, 3, 0);
        checkEdit("000", "000", 2, 147, 4, '*', 8, 0, 0);
        checkEdit("001", "001", 2, 147, 4, '*', 8, 3, 0);
        checkEdit("", " ", 129, 8, 1, 0);
        checkEdit(NINES, NINES, 159, 159, 145, 0);
        checkEdit("-" + NINES, "-" + NINES, 175, 175, 161, 0);
        checkEdit("", " ".repeat(64), 143, 143, 143, 143, 132, 0);
        checkEdit("9", " ".repeat(62) + "+9", 143, 143, 143, 143, 130, 5, '+', 161, 0);
    }

    private static void editFaults() {
        for (int code = 0; code < 256; code++) {
            boolean known = code <= 8 || code > 128 && code < 144;
            if (!known) {
                checkFault("", code, 0);
            }
        }
        for (int x = 1; x <= 15; x++) {
            checkEdit("", " ".repeat(x), 128 + x, 0);
            checkEdit("1".repeat(x), "1".repeat(x), 144 + x, 0);
            checkEdit("1".repeat(x), " " + "1".repeat(x), 160 + x, 0);
        }
        checkFault("1", 146, 0);
        checkFault("1", 162, 0);
        checkFault("1", 145, 145, 0);
        checkFault("123", 146, 0);
        checkFault("1", 0);
        checkFault("", 143, 143, 143, 143, 133, 0);
        checkFault("", 143, 143, 143, 143, 132, 3, 0);
        checkFault("", 143, 143, 143, 143, 132, 7, 1, 0);
        checkFault("1", 143, 143, 143, 143, 132, 145, 0);
        checkFault("-1", 143, 143, 143, 143, 131, 161, 0);
        checkFault("-1", 143, 143, 143, 143, 132, 161, 0);
        checkFault("0", 145, 8, 2, 0);
        checkFault("7", 145, 8, 2, 0);
        checkFault("7", 8, 1, 145, 0);
        checkFault("", 8, 255, 0);
        checkSteps();
        checkPatternsAtTheEnd();
    }

    /** 63 bytes that tell what to do, then 0, are well; a 64th one but 0 is not. */
    private static void checkSteps() {
        DigitRows x = two("", "");
        for (int i = 0; i < 63; i++) {
            x.put(64 + i, 3);
        }
        CHECKS.due("14: 63 steps", x.edit(0, 0, 64, 192), 63);
        x.put(64 + 63, 1);
        CHECKS.due("14: 64 steps", x.edit(0, 0, 64, 192), -2);
        DigitRows y = two("", "");
        for (int i = 0; i < 63; i++) {
            y.put(64 + 2 * i, 4);
            y.put(65 + 2 * i, 1);
        }
        CHECKS.due("14: 63 steps of two bytes", y.edit(0, 0, 64, 192), 0);
        y.put(64 + 126, 2);
        CHECKS.due("14: 64 steps of two bytes", y.edit(0, 0, 64, 192), -2);
    }

    private static void checkPatternsAtTheEnd() {
        DigitRows x = two("12", "");
        x.put(254, 146);
        CHECKS.due("14: the pattern's 0 is the last byte", x.edit(2, 0, 254, 64), 2);
        x.put(255, 2);
        CHECKS.due("14: no 0 in memory", x.edit(2, 0, 254, 64), -2);
        for (int code = 4; code <= 8; code++) {
            x.put(255, code);
            CHECKS.due("14: no next of " + code, x.edit(2, 0, 254, 64), -2);
        }
        for (int p : new int[] {-1, -2, 256, LOWEST, HIGHEST}) {
            CHECKS.due("14: pattern at " + p, x.edit(2, 0, p, 64), -2);
            CHECKS.due("14: pattern at " + p, x.edit(2, 0, p, 300), -2);
        }
    }

    private static void editPlaces() {
        DigitRows x = two("12", "");
        x.put(64, 146);
        CHECKS.due("14: up to the last byte", x.edit(2, 0, 64, 254), 2);
        CHECKS.due("14: up to the last byte", text(x, 254, 2), "12");
        CHECKS.due("14: from byte 0 on", x.edit(2, 0, 64, 0), 2);
        CHECKS.due("14: from byte 0 on", text(x, 0, 2), "12");
        putDecimal(x, 0, "12");
        String before = dump(x);
        for (int b : new int[] {255, 256, 257, -1, LOWEST, HIGHEST}) {
            CHECKS.due("14: written at " + b, x.edit(2, 0, 64, b), -1);
        }
        CHECKS.due("14: nothing of no digits at 256", x.edit(0, 32, 65, 256), 0);
        CHECKS.due("14: nothing of no digits at 257", x.edit(0, 32, 65, 257), -1);
        CHECKS.due("14: nothing of no digits at -1", x.edit(0, 32, 65, -1), -1);
        CHECKS.due("14: a decimal beyond memory", x.edit(2, 255, 300, 64), -1);
        CHECKS.due("14: a decimal at -1", x.edit(2, -1, 64, 64), -1);
        CHECKS.due("14: no decimal", x.edit(2, 128, 64, 300), -2);
        CHECKS.due("14: 32 digits", x.edit(32, 128, 64, 300), -1);
        CHECKS.due("14: -1 digits", x.edit(-1, 128, 64, 300), -1);
        CHECKS.due("14: nothing changes", dump(x), before);
    }

    private static void significant() {
        DigitRows x = two("05", "00");
        x.put(64, 146);
        CHECKS.due("15: at first", x.significant(), false);
        x.edit(2, 0, 64, 300);
        CHECKS.due("15: after a refused one", x.significant(), false);
        x.edit(2, 0, 64, 128);
        CHECKS.due("15: after 05", x.significant(), true);
        x.edit(2, 32, 64, 300);
        x.edit(2, 32, 200, 128);
        x.edit(2, 99, 64, 128);
        x.edit(2, 255, 64, 128);
        CHECKS.due("15: after 00, refused", x.significant(), true);
        x.edit(2, 32, 64, 128);
        CHECKS.due("15: after 00", x.significant(), false);
        x.put(65, 2);
        x.edit(2, 32, 64, 128);
        CHECKS.due("15: after 00, set at the end", x.significant(), true);
        x.put(65, 1);
        x.edit(2, 0, 64, 128);
        CHECKS.due("15: after 05, taken at the end", x.significant(), false);
        CHECKS.due("15: a new one", new DigitRows().significant(), false);
    }

    /** Each number of digits and each place alone makes -1, ahead of what is none. */
    private static void refusals() {
        for (int bad : new int[] {-1, 32, LOWEST, HIGHEST}) {
            checkRefusals("digits " + bad, bad, 0);
        }
        for (int bad : new int[] {-1, 256, LOWEST, HIGHEST}) {
            checkRefusals("place " + bad, 0, bad);
        }
        checkRefusals("31 at 241", 31, 241);
        checkRefusals("30 at 241", 30, 241);
        checkRefusals("2 at 255", 2, 255);
        DigitRows x = filled(0x1C);
        CHECKS.due("1 at 255", x.compare(1, 255, 0, 255), 0);
        for (int i = 240; i < 255; i++) {
            x.put(i, 0x11);
        }
        CHECKS.due("31 at 240", x.compare(31, 240, 31, 240), 4);
        CHECKS.due("29 at 241", x.compare(29, 241, 29, 241), 4);
    }

    private static void checkRefusals(String what, int n, int a) {
        DigitRows x = new DigitRows();
        CHECKS.due(what + ": sum 1", x.sum(n, a, 1, 0, 1, 0), -1);
        CHECKS.due(what + ": sum 2", x.sum(1, 0, n, a, 1, 0), -1);
        CHECKS.due(what + ": sum 3", x.sum(1, 0, 1, 0, n, a), -1);
        CHECKS.due(what + ": less 1", x.less(n, a, 1, 0, 1, 0), -1);
        CHECKS.due(what + ": less 2", x.less(1, 0, n, a, 1, 0), -1);
        CHECKS.due(what + ": less 3", x.less(1, 0, 1, 0, n, a), -1);
        CHECKS.due(what + ": product 1", x.product(n, a, 1, 0, 1, 0), -1);
        CHECKS.due(what + ": product 2", x.product(1, 0, n, a, 1, 0), -1);
        CHECKS.due(what + ": product 3", x.product(1, 0, 1, 0, n, a), -1);
        CHECKS.due(what + ": quotient 1", x.quotient(n, a, 1, 0, 1, 0), -1);
        CHECKS.due(what + ": quotient 2", x.quotient(1, 0, n, a, 1, 0), -1);
        CHECKS.due(what + ": quotient 3", x.quotient(1, 0, 1, 0, n, a), -1);
        CHECKS.due(what + ": shift 1", x.shift(n, a, 0, 0, 1, 0), -1);
        CHECKS.due(what + ": shift 2", x.shift(1, 0, 0, 0, n, a), -1);
        CHECKS.due(what + ": compare 1", x.compare(n, a, 1, 0), -1);
        CHECKS.due(what + ": compare 2", x.compare(1, 0, n, a), -1);
        CHECKS.due(what + ": number", x.number(5, n, a), -1);
        CHECKS.due(what + ": value", x.value(n, a), 0);
        CHECKS.due(what + ": characters 1", x.characters(n, a, 1, 0), -1);
        CHECKS.due(what + ": characters 2", x.characters(1, 0, n, a), -1);
        CHECKS.due(what + ": digits 1", x.digits(n, a, 1, 0), -1);
        CHECKS.due(what + ": digits 2", x.digits(1, 0, n, a), -1);
        CHECKS.due(what + ": edit", x.edit(n, a, 0, 0), -1);
        CHECKS.due(what + ": nothing changes", dump(x), dump(new DigitRows()));
    }

    private static void unreadable() {
        DigitRows x = two("1", "");
        String before = dump(x);
        CHECKS.due("none: sum 1", x.sum(1, 9, 1, 0, 1, 5), -2);
        CHECKS.due("none: sum 2", x.sum(1, 0, 1, 9, 1, 5), -2);
        CHECKS.due("none: less 1", x.less(1, 9, 1, 0, 1, 5), -2);
        CHECKS.due("none: less 2", x.less(1, 0, 1, 9, 1, 5), -2);
        CHECKS.due("none: product 1", x.product(1, 9, 1, 0, 1, 5), -2);
        CHECKS.due("none: product 2", x.product(1, 0, 1, 9, 1, 5), -2);
        CHECKS.due("none: quotient 1", x.quotient(1, 9, 1, 0, 1, 5), -2);
        CHECKS.due("none: quotient 2", x.quotient(1, 0, 1, 9, 1, 5), -2);
        CHECKS.due("none: shift", x.shift(1, 9, 0, 0, 1, 5), -2);
        CHECKS.due("none: compare 1", x.compare(1, 9, 1, 0), -2);
        CHECKS.due("none: compare 2", x.compare(1, 0, 1, 9), -2);
        CHECKS.due("none: value", x.value(1, 9), 0);
        CHECKS.due("none: characters", x.characters(1, 9, 1, 5), -2);
        CHECKS.due("none: digits", x.digits(1, 9, 1, 5), -2);
        CHECKS.due("none: edit", x.edit(1, 9, 9, 5), -2);
        CHECKS.due("none: nothing changes", dump(x), before);
    }

    /** What is written lies over what is read. */
    private static void overlaps() {
        DigitRows x = two("12345", "");
        CHECKS.due("over itself: sum", x.sum(5, 0, 5, 0, 5, 1), 0);
        CHECKS.due("over itself: sum", hex(x, 0, 4), "1224690c");
        x = two("12345", "");
        CHECKS.due("over itself: shift", x.shift(5, 0, 0, 0, 7, 1), 0);
        CHECKS.due("over itself: shift", decimal(x, 7, 1), "+0012345");
        x = two("-12345", "");
        CHECKS.due("over itself: characters", x.characters(5, 0, 5, 0), 8);
        CHECKS.due("over itself: characters", text(x, 0, 6), "-12345");
        CHECKS.due("over itself: digits", x.digits(5, 0, 5, 2), 8);
        CHECKS.due("over itself: digits", decimal(x, 5, 2), "-12345");
        x = two("12345", "");
        x.put(3, 149);
        CHECKS.due("over itself: edit", x.edit(5, 0, 3, 2), 5);
        CHECKS.due("over itself: edit", text(x, 2, 5), "12345");
    }

    /** Nothing of a long call is left in a short one after it. */
    private static void shortAfterLong() {
        DigitRows x = two(NINES, "-" + NINES);
        putDecimal(x, 100, "20");
        putDecimal(x, 104, "-3");
        checkShort(x, "sum", longCall(x), x.sum(1, 104, 2, 100, 3, 120), 0, "+017");
        checkShort(x, "less", longCall(x), x.less(1, 104, 2, 100, 3, 120), 0, "+023");
        checkShort(x, "product", longCall(x), x.product(1, 104, 2, 100, 3, 120), 8, "-060");
        checkShort(x, "quotient", longCall(x), x.quotient(1, 104, 2, 100, 3, 120), 8, "-006");
        checkShort(x, "quotient", longCall(x), x.quotient(1, 104, 2, 100, 3, 120), 8, "-006");
        checkShort(x, "shift", longCall(x), x.shift(2, 100, 1, 0, 3, 120), 0, "+200");
        checkShort(x, "number", longCall(x), x.number(7, 3, 120), 0, "+007");
        putText(x, 140, "-12");
        checkShort(x, "digits", longCall(x), x.digits(2, 140, 3, 120), 8, "-012");
    }

    private static int longCall(DigitRows x) {
        return x.product(31, 0, 31, 32, 31, 64);
    }

    private static void checkShort(DigitRows x, String what, int before, int flags, int due, String want) {
        CHECKS.due("long ahead of " + what, before, 10);
        CHECKS.due("short " + what, flags, due);
        CHECKS.due("short " + what, decimal(x, 3, 120), want);
    }
}
