/**
 * The document's sentences about patterns, each on both sides of its boundary; of each fault and
 * of each refused edit() also that nothing has changed, significant() included.
 */
public final class PatternBoundaryTest extends MemoryTestKit {
    private static final String BLANKS = " ".repeat(64);
    private static final int PATTERN = 64;
    private static final int OUT = 160;

    public static void main(String[] args) {
        whatIsSoAtFirst();
        whatIsSoAtFirstEachTime();
        digitsAreTakenFromTheFirst();
        zeroEnds();
        significanceIsSet();
        signIsWritten();
        nextIsTheFill();
        nextIsTheSign();
        nextIsWritten();
        lastCharactersBecomeTheFill();
        fills();
        digits();
        signedDigits();
        signIsWrittenOnceOrAgain();
        otherBytesAreFaults();
        moreDigitsThanThereAre();
        digitsLeftAtTheEnd();
        moreCharactersThan64();
        eightOfMoreThanWereWritten();
        bytesBeyondMemory();
        the64thByte();
        placesOfTheDecimal();
        placesOfTheCharacters();
        orderOfAnswers();
        overAllThatIsRead();
        significantAfterRefusals();
        significantAfterOtherCalls();
        CHECKS.end();
    }

    private static void whatIsSoAtFirst() {
        checkEdit("", " ", 129, 0);
        checkEdit("-1", " -1", 129, 3, 145, 0);
        checkEdit("1", "  1", 129, 3, 145, 0);
        checkEdit("0", "   ", 129, 3, 145, 0);
        checkEdit("-0", "   ", 129, 3, 145, 0);
        checkEdit("", " ", 3, 0);
        checkEdit("-", " ", 3, 0);
        checkEdit("", " ", 7, 'x', 0);
        checkEdit("0", " ", 145, 0);
    }

    /** An edit that changes fill, sign and significance leaves nothing of them to the next. */
    private static void whatIsSoAtFirstEachTime() {
        DigitRows x = two("-5", "6");
        putBytes(x, PATTERN, 4, '*', 6, '~', 2, 3, 145, 0);
        putBytes(x, 96, 129, 3, 7, 'x', 145, 0);
        CHECKS.due("14: first", x.edit(1, 0, PATTERN, OUT), 2);
        CHECKS.due("14: first", text(x, OUT, 2), "~5");
        CHECKS.due("14: next, below 0", x.edit(1, 0, 96, OUT), 4);
        CHECKS.due("14: next, below 0", text(x, OUT, 4), " - 5");
        x.edit(1, 0, PATTERN, OUT);
        CHECKS.due("14: next", x.edit(1, 32, 96, OUT), 4);
        CHECKS.due("14: next", text(x, OUT, 4), "   6");
    }

    private static void digitsAreTakenFromTheFirst() {
        String digits = "1234567890123456789012345678901";
        for (int n = 1; n <= 31; n++) {
            String some = digits.substring(0, n);
            DigitRows x = two(some, "");
            // With n even the first half byte is no digit.
            x.put(0, x.byteOf(0) + (n % 2 == 0 ? 0xF0 : 0));
            putPattern(x, PATTERN, n);
            CHECKS.due("14: " + some, x.edit(n, 0, PATTERN, OUT), n);
            CHECKS.due("14: " + some, text(x, OUT, n), some);
        }
        checkEdit("12345", "1.2.345", 145, 7, '.', 145, 7, '.', 147, 0);
        checkEdit("00345", "   .345", 145, 7, '.', 145, 2, 7, '.', 147, 0);
    }

    private static void zeroEnds() {
        checkEdit("", "", 0);
        checkEdit("", "", 0, 255, 145, 9);
        checkEdit("1", "1", 145, 0, 255);
        checkEdit("1", "1", 145, 0, 129);
        checkEdit("", "\0", 2, 7, 0, 0);
    }

    private static void significanceIsSet() {
        checkEdit("00", "00", 2, 146, 0);
        checkEdit("00", "  ", 2, 1, 146, 0);
        checkEdit("00", "00", 1, 2, 146, 0);
        checkEdit("00", " 0", 145, 2, 145, 0);
        checkEdit("10", "1 ", 145, 1, 145, 0);
        checkEdit("11", "11", 145, 1, 145, 0);
        checkEnd("2", 2, 145, 0, true);
        checkEnd("2", 145, 1, 0, false);
        checkEnd("2", 145, 0, 0, true);
        checkEnd("0", 145, 0, 0, false);
        checkEnd("0", 145, 2, 0, true);
        checkEnd("0", 2, 145, 0, true);
        checkEnd("0", 161, 0, 0, false);
        checkEnd("2", 161, 0, 0, true);
    }

    private static void checkEnd(String a, int one, int other, int end, boolean want) {
        DigitRows x = two(a, "");
        putBytes(x, PATTERN, one, other, end);
        CHECKS.due("14: " + a + " by " + one + " " + other, x.edit(1, 0, PATTERN, OUT),
            one > 160 && !a.equals("0") ? 2 : 1);
        CHECKS.due("15: " + a + " by " + one + " " + other, x.significant(), want);
    }

    private static void signIsWritten() {
        checkEdit("-5", "-5-", 3, 145, 3, 0);
        checkEdit("5", " 5 ", 3, 145, 3, 0);
        checkEdit("-5", "5-", 2, 145, 3, 0);
        checkEdit("-5", "-".repeat(15) + "5", 3, 3, 3, 3, 3, 3, 3, 3, 3, 3, 3, 3, 3, 3, 3, 145, 0);
    }

    private static void nextIsTheFill() {
        for (int fill = 0; fill < 256; fill++) {
            String one = String.valueOf((char) fill);
            checkEdit("0", one + one + one, 4, fill, 129, 145, 7, 'x', 0);
        }
        checkEdit("", " *#", 129, 4, '*', 129, 4, '#', 129, 0);
        checkEdit("", "#", 4, '*', 4, '#', 129, 0);
    }

    private static void nextIsTheSign() {
        for (int sign = 0; sign < 256; sign++) {
            String one = String.valueOf((char) sign);
            checkEdit("5", one + "5", 5, sign, 3, 145, 0);
            checkEdit("0", one + "0", 5, sign, 3, 2, 145, 0);
            checkEdit("-0", one + "0", 5, sign, 3, 2, 145, 0);
            checkEdit("-5", "-5", 5, sign, 3, 145, 0);
            checkEdit("-5", one + "5", 6, sign, 3, 145, 0);
            checkEdit("5", " 5", 6, sign, 3, 145, 0);
            checkEdit("0", " 0", 6, sign, 3, 2, 145, 0);
            checkEdit("-0", " 0", 6, sign, 3, 2, 145, 0);
        }
        checkEdit("5", "b5", 5, 'a', 5, 'b', 161, 0);
        checkEdit("-5", "b5", 6, 'a', 6, 'b', 161, 0);
        checkEdit("5", " 5a", 161, 5, 'a', 3, 0);
    }

    private static void nextIsWritten() {
        for (int next = 0; next < 256; next++) {
            checkEdit("5", "5" + (char) next, 145, 7, next, 0);
            checkEdit("0", " *", 145, 4, '*', 7, next, 0);
        }
        checkEdit("05", " *5,", 145, 4, '*', 7, ',', 145, 7, ',', 0);
        checkEdit("5", " 5", 7, ',', 145, 0);
        checkEdit("0", ".0", 2, 7, '.', 145, 0);
        checkEdit("5", "5 ", 145, 1, 7, '.', 0);
    }

    private static void lastCharactersBecomeTheFill() {
        checkEdit("000", "000", 2, 147, 8, 0, 0);
        checkEdit("000", "00 ", 2, 147, 8, 1, 0);
        checkEdit("000", "0  ", 2, 147, 8, 2, 0);
        checkEdit("000", "   ", 2, 147, 8, 3, 0);
        checkEdit("-000", "   ", 2, 147, 8, 3, 0);
        checkEdit("001", "001", 2, 147, 8, 3, 0);
        checkEdit("-001", "001", 2, 147, 8, 3, 0);
        checkEdit("", " *", 130, 4, '*', 8, 1, 0);
        checkEdit("0", "*#", 2, 7, '+', 145, 4, '*', 8, 2, 4, '#', 8, 1, 0);
        checkEdit("0", "   0", 2, 7, '$', 7, 'a', 7, 'b', 8, 3, 145, 0);
        checkEdit("0", "$  0", 2, 7, '$', 7, 'a', 7, 'b', 8, 2, 145, 0);
        checkEdit("", "*".repeat(64), 143, 143, 143, 143, 132, 4, '*', 8, 64, 0);
        checkEdit("", " " + "*".repeat(63), 143, 143, 143, 143, 132, 4, '*', 8, 63, 0);
    }

    private static void fills() {
        for (int many = 1; many <= 15; many++) {
            checkEdit("", " ".repeat(many), 128 + many, 0);
            checkEdit("", "*".repeat(many), 4, '*', 128 + many, 0);
            checkEdit("", "*".repeat(many), 2, 4, '*', 128 + many, 0);
        }
    }

    private static void digits() {
        for (int many = 1; many <= 15; many++) {
            String noughts = "0".repeat(many - 1);
            checkEdit("0" + noughts, " ".repeat(many), 144 + many, 0);
            checkEdit("1" + noughts, "1" + noughts, 144 + many, 0);
            checkEdit(noughts + "1", " ".repeat(many - 1) + "1", 144 + many, 0);
            checkEdit("0" + noughts, "0" + noughts, 2, 144 + many, 0);
            checkEdit("-1" + noughts, "1" + noughts, 144 + many, 0);
        }
        checkEdit("00102", "  102", 149, 0);
        checkEdit("00102", "  102", 145, 145, 145, 145, 145, 0);
        checkEdit("00100", "  1  ", 147, 1, 146, 0);
        for (int digit = 0; digit <= 9; digit++) {
            checkEdit("" + digit, "" + digit, 2, 145, 0);
            checkEdit("" + digit, digit == 0 ? " " : "" + digit, 145, 0);
        }
    }

    private static void signedDigits() {
        for (int many = 1; many <= 15; many++) {
            String noughts = "0".repeat(many - 1);
            checkEdit("0" + noughts, " ".repeat(many), 160 + many, 0);
            checkEdit("-0" + noughts, " ".repeat(many), 160 + many, 0);
            checkEdit("1" + noughts, " 1" + noughts, 160 + many, 0);
            checkEdit("-1" + noughts, "-1" + noughts, 160 + many, 0);
            checkEdit("-" + noughts + "1", " ".repeat(many - 1) + "-1", 160 + many, 0);
            checkEdit("-" + noughts + "1", noughts + "1", 2, 160 + many, 0);
        }
    }

    private static void signIsWrittenOnceOrAgain() {
        checkEdit("-012", " -12", 161, 162, 0);
        checkEdit("-112", "-112", 161, 162, 0);
        checkEdit("-112", "112", 145, 162, 0);
        checkEdit("-012", " -12", 145, 162, 0);
        checkEdit("-112", "-1-12", 161, 1, 162, 0);
        checkEdit("-102", "-1 -2", 161, 1, 162, 0);
        checkEdit("-112", "-112", 161, 1, 2, 162, 0);
        checkEdit("-112", "-112", 161, 1, 146, 0);
    }

    private static void otherBytesAreFaults() {
        for (int code = 1; code < 256; code++) {
            boolean single = code <= 3 || code > 128 && code < 144;
            boolean takesNext = code >= 4 && code <= 8;
            boolean takesDigits = code > 144 && code < 160 || code > 160 && code < 176;
            if (!single && !takesNext && !takesDigits) {
                checkFault("", code, 0);
                checkFault("-5", 145, code, 0);
                checkFault("5", code, 145, 0);
            }
        }
        checkEdit("", "", 8, 0, 0);
        checkFault("", 9, 0, 0);
        checkFault("", 127, 0);
        checkFault("", 128, 0);
        checkEdit("", " ", 129, 0);
        checkEdit("", " ".repeat(15), 143, 0);
        checkFault("", 144, 0);
        checkFault("", 160, 0);
        checkEdit("1".repeat(15), "1".repeat(15), 159, 0);
        checkEdit("1".repeat(15), " " + "1".repeat(15), 175, 0);
        checkFault("1".repeat(15), 176, 0);
        checkFault("1".repeat(16), 176, 0);
    }

    private static void moreDigitsThanThereAre() {
        for (int n = 0; n <= 31; n++) {
            for (int kind : new int[] {144, 160}) {
                checkCount(n, n, kind, true);
                checkCount(n, n + 1, kind, false);
            }
        }
        checkFault("", 145, 0);
        checkFault("0", 146, 0);
        checkFault("0", 145, 161, 0);
    }

    private static void digitsLeftAtTheEnd() {
        for (int n = 1; n <= 31; n++) {
            for (int kind : new int[] {144, 160}) {
                checkCount(n, n - 1, kind, false);
            }
        }
        checkFault("0", 0);
        checkFault("00", 145, 0);
        checkFault("1", 129, 3, 0);
    }

    /** A decimal of n digits by a pattern that takes so many. */
    private static void checkCount(int n, int taken, int kind, boolean fine) {
        int[] pattern = new int[5];
        int left = taken;
        for (int i = 0; left > 0; i++) {
            pattern[i] = kind + Math.min(15, left);
            left -= Math.min(15, left);
        }
        if (fine) {
            checkEdit("1".repeat(n), (kind == 160 && n > 0 ? " " : "") + "1".repeat(n), pattern);
        } else {
            checkFault("1".repeat(n), pattern);
        }
    }

    private static void moreCharactersThan64() {
        checkEdit("", BLANKS, 143, 143, 143, 143, 132, 0);
        checkFault("", 143, 143, 143, 143, 133, 0);
        checkFault("", 143, 143, 143, 143, 143, 0);
        checkEdit("", BLANKS, 143, 143, 143, 143, 131, 3, 0);
        checkFault("", 143, 143, 143, 143, 132, 3, 0);
        checkEdit("", BLANKS, 143, 143, 143, 143, 131, 7, 'x', 0);
        checkFault("", 143, 143, 143, 143, 132, 7, 'x', 0);
        checkEdit("1", BLANKS.substring(1) + "1", 143, 143, 143, 143, 131, 145, 0);
        checkFault("1", 143, 143, 143, 143, 132, 145, 0);
        checkEdit("0", BLANKS, 143, 143, 143, 143, 131, 145, 0);
        checkFault("0", 143, 143, 143, 143, 132, 145, 0);
        checkEdit("-1", BLANKS.substring(2) + "-1", 143, 143, 143, 143, 130, 161, 0);
        checkFault("-1", 143, 143, 143, 143, 131, 161, 0);
        checkFault("-1", 143, 143, 143, 143, 132, 161, 0);
        checkEdit("0", BLANKS, 143, 143, 143, 143, 131, 161, 0);
        checkEdit("", BLANKS, 143, 143, 143, 143, 132, 1, 2, 4, 42, 5, 42, 6, 42, 8, 0, 0);
    }

    private static void eightOfMoreThanWereWritten() {
        for (String a : new String[] {"0", "-0", "7", "-7"}) {
            boolean zero = a.endsWith("0");
            checkEdit(a, zero ? " " : a.substring(a.length() - 1), 145, 8, 1, 0);
            checkFault(a, 145, 8, 2, 0);
            checkFault(a, 8, 1, 145, 0);
            checkFault(a, 145, 8, 255, 0);
        }
        checkEdit("", "", 8, 0, 0);
        checkFault("", 8, 1, 0);
        checkFault("", 143, 143, 143, 143, 132, 8, 65, 0);
        checkFault("", 143, 143, 143, 143, 131, 8, 64, 0);
        checkFault("", 143, 143, 143, 143, 132, 8, 255, 0);
    }

    private static void bytesBeyondMemory() {
        DigitRows x = two("1", "");
        putBytes(x, 254, 145, 0);
        CHECKS.due("14: 0 at 255", x.edit(1, 0, 254, OUT), 1);
        x.put(255, 145);
        refused("14: 145 at 255", x, -2, y -> y.edit(1, 0, 255, OUT));
        for (int code = 1; code <= 8; code++) {
            x.put(255, code);
            refused("14: " + code + " at 255", x, -2, y -> y.edit(1, 0, 255, OUT));
            putBytes(x, 254, code, 0);
            CHECKS.due("14: " + code + " and 0 at 255", x.edit(0, 32, 254, OUT),
                code >= 4 ? -2 : code == 3 ? 1 : 0);
            putBytes(x, 253, code, 0, 0);
            CHECKS.due("14: " + code + ", 0 and 0 at 255", x.edit(0, 32, 253, OUT),
                code == 3 || code == 7 ? 1 : 0);
        }
        x.put(255, 0);
        CHECKS.due("14: 0 alone at 255", x.edit(0, 32, 255, OUT), 0);
        DigitRows empty = two("", "");
        putBytes(empty, 1, 0, 0, 0);
        for (int p : new int[] {-1, -2, 256, 257, LOWEST, HIGHEST}) {
            refused("14: a pattern at " + p, empty, -2, y -> y.edit(0, 0, p, OUT));
        }
    }

    private static void the64thByte() {
        for (int code = 0; code < 256; code++) {
            DigitRows x = two("", "");
            for (int i = 0; i < 63; i++) {
                x.put(PATTERN + i, 1);
            }
            x.put(PATTERN + 63, code);
            if (code == 0) {
                CHECKS.due("14: the 64th is 0", x.edit(0, 0, PATTERN, OUT), 0);
            } else {
                refused("14: the 64th is " + code, x, -2, y -> y.edit(0, 0, PATTERN, OUT));
            }
        }
        for (int code = 4; code <= 8; code++) {
            checkPairs(code, 62, 2, true);
            checkPairs(code, 63, 0, true);
            checkPairs(code, 63, 2, false);
            checkPairs(code, 64, 0, false);
        }
    }

    /** So many bytes of 4 .. 8, each with its next one, and then one more byte and a 0. */
    private static void checkPairs(int code, int many, int last, boolean fine) {
        DigitRows x = two("", "");
        for (int i = 0; i < many; i++) {
            putBytes(x, PATTERN + 2 * i, code, code == 8 ? 0 : 1);
        }
        x.put(PATTERN + 2 * many, last);
        String what = "14: " + many + " of " + code + ", then " + last;
        if (fine) {
            // As far as 7 writes, it is a fill.
            CHECKS.due(what, x.edit(0, 0, PATTERN, 0), code == 7 ? many : 0);
        } else {
            refused(what, x, -2, y -> y.edit(0, 0, PATTERN, 0));
        }
    }

    private static void placesOfTheDecimal() {
        for (int n = 0; n <= 31; n++) {
            int digits = n;
            int last = 255 - n / 2;
            DigitRows x = new DigitRows();
            putDecimal(x, last, "3".repeat(n));
            putPattern(x, PATTERN, n);
            CHECKS.due("14: " + n + " digits at " + last, x.edit(n, last, PATTERN, 100), n);
            CHECKS.due("14: " + n + " digits at " + last, text(x, 100, n), "3".repeat(n));
            refused("14: " + n + " digits one on", x, -1, y -> y.edit(digits, last + 1, PATTERN, 100));
            refused("14: " + n + " digits at -1", x, -1, y -> y.edit(digits, -1, PATTERN, 100));
        }
    }

    private static void placesOfTheCharacters() {
        for (int many = 0; many <= 64; many++) {
            DigitRows x = withFills(many);
            CHECKS.due("14: " + many + " up to 255", x.edit(0, 0, 40, 256 - many), many);
            CHECKS.due("14: " + many + " up to 255", hex(x, 255 - many, many + 1),
                "00" + "20".repeat(many));
            for (int b : new int[] {257 - many, 257, -1, LOWEST, HIGHEST}) {
                refused("14: " + many + " at " + b, withFills(many), -1, y -> y.edit(0, 0, 40, b));
            }
            CHECKS.due("14: " + many + " at 0", withFills(many).edit(0, 0, 40, 0), many);
        }
        CHECKS.due("14: none at 256", two("", "").edit(0, 0, 40, 256), 0);
        refused("14: one at 256", withFills(1), -1, y -> y.edit(0, 0, 40, 256));
        refused("14: none at 257", two("", ""), -1, y -> y.edit(0, 0, 40, 257));
        refused("14: none at -1", two("", ""), -1, y -> y.edit(0, 0, 40, -1));
    }

    /** A pattern at 40 that writes so many fills and ends with significance 1. */
    private static DigitRows withFills(int many) {
        DigitRows x = two("", "");
        int at = 40;
        x.put(at++, 2);
        for (int left = many; left > 0; left -= 15) {
            x.put(at++, 128 + Math.min(15, left));
        }
        x.put(at, 0);
        return x;
    }

    private static void orderOfAnswers() {
        DigitRows x = two("1", "2");
        putBytes(x, PATTERN, 145, 0);
        refused("14: digits ahead of the pattern", x, -1, y -> y.edit(32, 0, 300, OUT));
        refused("14: digits ahead of the decimal", x, -1, y -> y.edit(32, 100, PATTERN, OUT));
        refused("14: the decimal's place ahead of the pattern", x, -1, y -> y.edit(1, 256, 300, OUT));
        refused("14: no decimal, and b", x, -2, y -> y.edit(1, 100, PATTERN, 257));
        refused("14: no decimal, and b too late", x, -2, y -> y.edit(1, 100, PATTERN, 256));
        refused("14: no pattern, and b", x, -2, y -> y.edit(1, 0, 300, 257));
        refused("14: a fault, and b", x, -2, y -> y.edit(1, 0, PATTERN + 1, 257));
        refused("14: b alone", x, -1, y -> y.edit(1, 0, PATTERN, 257));
        CHECKS.due("14: all is well", x.edit(1, 0, PATTERN, OUT), 1);
    }

    /** The characters at every place over the decimal and the pattern. */
    private static void overAllThatIsRead() {
        for (int b = 80; b <= 125; b++) {
            DigitRows x = new DigitRows();
            putDecimal(x, 100, "-0123456");
            putBytes(x, 106, 4, '*', 163, 7, ',', 164, 129, 0);
            String before = dump(x);
            CHECKS.due("14: at " + b, x.edit(7, 100, 106, b), 10);
            CHECKS.due("14: at " + b, text(x, b, 10), "*-12,3456*");
            CHECKS.due("14: ahead of " + b, hex(x, 0, b), before.substring(0, 2 * b));
            CHECKS.due("14: behind " + b, hex(x, b + 10, 256 - b - 10), before.substring(2 * (b + 10)));
        }
    }

    private static void significantAfterRefusals() {
        for (boolean was : new boolean[] {false, true}) {
            DigitRows x = two("1", "0");
            putBytes(x, 90, was ? 2 : 1, 145, 0);
            x.edit(1, 32, 90, OUT);
            CHECKS.due("15: as it was laid", x.significant(), was);
            // Each of these would end with the other significance, were it not refused.
            int other = was ? 1 : 2;
            putBytes(x, PATTERN, 145, other, 0);
            putBytes(x, 70, 145, other, 9, 0);
            putBytes(x, 74, 145, other, 8, 2, 0);
            putBytes(x, 80, other, 0);
            putBytes(x, 84, 145, other, 145, 0);
            refused("15: no place for it", x, -1, y -> y.edit(1, 0, PATTERN, 256));
            refused("15: b is none", x, -1, y -> y.edit(1, 0, PATTERN, 257));
            refused("15: another byte", x, -2, y -> y.edit(1, 0, 70, OUT));
            refused("15: 8 of too many", x, -2, y -> y.edit(1, 0, 74, OUT));
            refused("15: digits left", x, -2, y -> y.edit(1, 0, 80, OUT));
            refused("15: too many digits", x, -2, y -> y.edit(1, 0, 84, OUT));
            refused("15: no decimal", x, -2, y -> y.edit(1, 120, PATTERN, OUT));
            refused("15: no number of digits", x, -1, y -> y.edit(32, 0, PATTERN, OUT));
            CHECKS.due("15: not refused", x.edit(1, 0, PATTERN, OUT), 1);
            CHECKS.due("15: not refused", x.significant(), !was);
        }
    }

    private static void significantAfterOtherCalls() {
        for (boolean was : new boolean[] {false, true}) {
            DigitRows x = two("1", "2");
            putBytes(x, PATTERN, 145, was ? 2 : 1, 0);
            x.edit(1, 0, PATTERN, OUT);
            x.put(200, 1);
            x.byteOf(200);
            x.sum(1, 0, 1, 32, 1, 200);
            x.less(1, 0, 1, 32, 1, 200);
            x.product(1, 0, 1, 32, 1, 200);
            x.quotient(1, 0, 1, 32, 1, 200);
            x.shift(1, 0, 1, 0, 1, 200);
            x.compare(1, 0, 1, 32);
            x.number(0, 1, 200);
            x.value(1, 0);
            x.characters(1, 0, 1, 200);
            x.digits(1, 200, 1, 210);
            CHECKS.due("15: after all other calls", x.significant(), was);
            CHECKS.due("15: of another object", new DigitRows().significant(), false);
        }
    }
}
