import java.util.ArrayList;
import java.util.List;

/**
 * The document's boundaries of -1, -2, -3, on both sides, for every number of digits and every
 * place of every call; of each refused call also that nothing has changed.
 */
public final class RefusalBoundaryTest extends MemoryTestKit {
    private static final int[] NO_SIZES = {-1, 32, 33, LOWEST, HIGHEST};
    private static final int[] NO_PLACES = {-1, 256, LOWEST, HIGHEST};

    public static void main(String[] args) {
        memoryIsBytes0To255();
        numbersOfDigitsAre0To31();
        placesAreInMemory();
        decimalsReadAreAllInMemory();
        decimalsWrittenAreAllInMemory();
        charactersReadAreAllInMemory();
        charactersWrittenAreAllInMemory();
        shiftsAreWithin99();
        roundsAre0To9();
        signsAre10To15();
        digitsAre0To9();
        firstHalfOfEvenIsNotLookedAt();
        characterSigns();
        characterDigits();
        outsideGoesAheadOfNone();
        noneGoesAheadOfByZero();
        onlyZeroDividesNot();
        CHECKS.end();
    }

    private static void memoryIsBytes0To255() {
        for (int at : new int[] {0, 255}) {
            DigitRows x = new DigitRows();
            CHECKS.due("2: put at " + at, x.put(at, 0x1FF), true);
            CHECKS.due("3: byteOf " + at, x.byteOf(at), 255);
        }
        for (int at : NO_PLACES) {
            refused("2: put at " + at, filled(0xEE), 0, x -> x.put(at, 1) ? 1 : 0);
            refused("3: byteOf " + at, filled(0xEE), -1, x -> x.byteOf(at));
        }
        for (int b : new int[] {0, 1, 127, 128, 255, 256, 257, -1, -255, -256, -257, LOWEST, HIGHEST}) {
            DigitRows x = filled(0xEE);
            CHECKS.due("2: put " + b, x.put(7, b), true);
            CHECKS.due("2: put " + b, hex(x, 6, 3), "ee" + hex(bytes(Math.floorMod(b, 256)), 0, 1) + "ee");
        }
    }

    private static List<Slots.Slot> allSlots() {
        List<Slots.Slot> all = new ArrayList<>(Slots.READ);
        all.addAll(Slots.WRITTEN);
        all.add(Slots.CHARACTERS_READ);
        all.add(Slots.CHARACTERS_WRITTEN);
        return all;
    }

    /** 0 and 31 are fine in the tests of places; here what lies beyond them. */
    private static void numbersOfDigitsAre0To31() {
        for (Slots.Slot slot : allSlots()) {
            for (int n : NO_SIZES) {
                refused(slot.name() + ": " + n + " digits", Slots.bench(0), -1,
                    x -> slot.call().on(x, n, 200));
                refused(slot.name() + ": " + n + " digits at 0", Slots.bench(0), -1,
                    x -> slot.call().on(x, n, 0));
            }
        }
        for (int n : NO_SIZES) {
            refused("value: " + n + " digits", filled(0x11), 0, x -> x.value(n, 100));
        }
    }

    private static void placesAreInMemory() {
        for (Slots.Slot slot : allSlots()) {
            for (int at : NO_PLACES) {
                for (int n : new int[] {0, 1, 31}) {
                    refused(slot.name() + ": " + n + " at " + at, Slots.bench(n), -1,
                        x -> slot.call().on(x, n, at));
                }
            }
        }
        for (int at : NO_PLACES) {
            refused("value: at " + at, filled(0x1C), 0, x -> x.value(1, at));
        }
    }

    private static void decimalsReadAreAllInMemory() {
        for (int n = 0; n <= 31; n++) {
            int digits = n;
            int last = 255 - n / 2;
            for (Slots.Slot slot : Slots.READ) {
                checkReadAt(slot, n, 0);
                checkReadAt(slot, n, last);
                refused(slot.name() + ": " + n + " beyond 255", Slots.bench(n), -1,
                    x -> slot.call().on(x, digits, last + 1));
            }
            checkReadAt(Slots.VALUE, n, 0);
            checkReadAt(Slots.VALUE, n, last);
        }
        DigitRows x = filled(0x1C);
        CHECKS.due("value: 1 digit at 255", x.value(1, 255), 1);
        CHECKS.due("value: 2 digits at 255", x.value(2, 255), 0);
        x.put(254, 0x11);
        CHECKS.due("value: 3 digits at 254", x.value(3, 254), 111);
        CHECKS.due("value: 3 digits at 255", x.value(3, 255), 0);
    }

    /** The same decimal, at an edge and in the midst, must do the same. */
    private static void checkReadAt(Slots.Slot slot, int n, int at) {
        String told = n == 0 ? "" : "3" + "1".repeat(n - 1);
        DigitRows edge = Slots.bench(n);
        putDecimal(edge, at, told);
        DigitRows midst = Slots.bench(n);
        putDecimal(midst, 160, told);
        String what = slot.name() + ": " + n + " digits at " + at;
        CHECKS.due(what, slot.call().on(edge, n, at), slot.call().on(midst, n, 160));
        CHECKS.due(what, hex(edge, Slots.FIXED, 80), hex(midst, Slots.FIXED, 80));
        if (slot != Slots.VALUE && (n > 0 || !slot.name().equals("quotient 1"))) {
            CHECKS.due(what + " is done", slot.call().on(edge, n, at) >= 0, true);
        }
    }

    private static void decimalsWrittenAreAllInMemory() {
        for (int n = 0; n <= 31; n++) {
            int digits = n;
            int last = 255 - n / 2;
            for (Slots.Slot slot : Slots.WRITTEN) {
                checkWrittenAt(slot, n, 0, n / 2 + 1);
                checkWrittenAt(slot, n, last, n / 2 + 1);
                refused(slot.name() + ": " + n + " beyond 255", Slots.bench(n), -1,
                    x -> slot.call().on(x, digits, last + 1));
            }
        }
    }

    private static void charactersReadAreAllInMemory() {
        for (int n = 0; n <= 31; n++) {
            int digits = n;
            for (int at : new int[] {0, 255 - n}) {
                DigitRows x = Slots.bench(0);
                putText(x, at, "-" + "4".repeat(n));
                CHECKS.due("13: " + n + " at " + at, x.digits(n, at, 31, Slots.TARGET), n == 0 ? 4 : 8);
                CHECKS.due("13: " + n + " at " + at, decimal(x, 31, Slots.TARGET),
                    (n == 0 ? "+" : "-") + "0".repeat(31 - n) + "4".repeat(n));
            }
            DigitRows beyond = Slots.bench(0);
            putText(beyond, 256 - n, "-" + "4".repeat(n));
            refused("13: " + n + " beyond 255", beyond, -1,
                x -> x.digits(digits, 256 - digits, 31, Slots.TARGET));
        }
    }

    private static void charactersWrittenAreAllInMemory() {
        for (int n = 0; n <= 31; n++) {
            int digits = n;
            checkWrittenAt(Slots.CHARACTERS_WRITTEN, n, 0, n + 1);
            checkWrittenAt(Slots.CHARACTERS_WRITTEN, n, 255 - n, n + 1);
            refused("12: " + n + " beyond 255", Slots.bench(0), -1,
                x -> x.characters(31, Slots.FIXED, digits, 256 - digits));
        }
    }

    /** At an edge as in the midst, and not a byte more. */
    private static void checkWrittenAt(Slots.Slot slot, int n, int at, int many) {
        DigitRows edge = Slots.bench(n);
        DigitRows midst = Slots.bench(n);
        String before = dump(edge);
        String what = slot.name() + ": " + n + " digits at " + at;
        long answer = slot.call().on(edge, n, at);
        CHECKS.due(what + " is done", answer >= 0, true);
        CHECKS.due(what, answer, slot.call().on(midst, n, 160));
        String written = hex(midst, 160, many);
        CHECKS.due(what + ": all is written", written.contains("e"), false);
        CHECKS.due(what, dump(edge),
            before.substring(0, 2 * at) + written + before.substring(2 * (at + many)));
    }

    private static void shiftsAreWithin99() {
        for (int up : new int[] {0, 9}) {
            DigitRows x = Slots.bench(0);
            CHECKS.due("8: by 99", x.shift(31, Slots.FIXED, 99, up, 31, Slots.TARGET), 6);
            CHECKS.due("8: by -99", x.shift(31, Slots.FIXED, -99, up, 31, Slots.TARGET), 4);
            for (int by : new int[] {100, -100, LOWEST, HIGHEST}) {
                refused("8: by " + by, Slots.bench(0), -1,
                    y -> y.shift(31, Slots.FIXED, by, up, 31, Slots.TARGET));
            }
        }
    }

    private static void roundsAre0To9() {
        for (int by : new int[] {-99, -1, 0, 1, 99}) {
            for (int up : new int[] {-1, 10, LOWEST, HIGHEST}) {
                refused("8: by " + by + " up " + up, Slots.bench(0), -1,
                    x -> x.shift(31, Slots.FIXED, by, up, 31, Slots.TARGET));
            }
            for (int up : new int[] {0, 9}) {
                DigitRows x = Slots.bench(0);
                CHECKS.due("8: by " + by + " up " + up,
                    x.shift(31, Slots.FIXED, by, up, 31, Slots.TARGET) >= 0, true);
            }
        }
    }

    private static void signsAre10To15() {
        for (int n = 0; n <= 31; n++) {
            for (int sign = 0; sign < 16; sign++) {
                DigitRows x = Slots.bench(n);
                putDecimal(x, 160, "2".repeat(n), sign);
                long value = n == 0 ? 0 : Long.parseLong("2".repeat(Math.min(n, 18)));
                if (n <= 18) {
                    boolean minus = sign == 11 || sign == 13;
                    CHECKS.due("11: " + n + " digits, sign " + sign, x.value(n, 160),
                        sign < 10 ? 0 : minus ? -value : value);
                }
                checkReads("sign " + sign, x, n, sign >= 10);
            }
        }
    }

    private static void digitsAre0To9() {
        for (int n = 1; n <= 31; n++) {
            for (int i = 0; i < n; i++) {
                for (int half : new int[] {0, 9, 10, 11, 12, 15}) {
                    checkReads("digit " + i + " is " + half, withHalf(n, i, half), n, half <= 9);
                }
                refused("11: " + n + " digits, digit " + i + " none", withHalf(n, i, 10), 0,
                    valueOf(n));
            }
        }
    }

    private static Call valueOf(int n) {
        return x -> x.value(n, 160);
    }

    /** n digits of 1 at 160, of which the i-th, from the first on, is the half given. */
    private static DigitRows withHalf(int n, int i, int half) {
        DigitRows x = Slots.bench(n);
        putDecimal(x, 160, "1".repeat(n));
        int which = i + (n % 2 == 0 ? 1 : 0);
        int at = 160 + which / 2;
        int other = x.byteOf(at);
        x.put(at, which % 2 == 0 ? half * 16 + (other & 15) : (other & 240) + half);
        return x;
    }

    private static void checkReads(String what, DigitRows x, int n, boolean fine) {
        for (Slots.Slot slot : Slots.READ) {
            String told = slot.name() + ": " + n + " digits, " + what;
            if (fine) {
                long answer = slot.call().on(x, n, 160);
                CHECKS.due(told, answer == -3 ? slot.name().equals("quotient 1") : answer >= 0, true);
            } else {
                refused(told, x, -2, y -> slot.call().on(y, n, 160));
            }
        }
    }

    private static void firstHalfOfEvenIsNotLookedAt() {
        for (int n = 0; n <= 30; n += 2) {
            for (int half = 1; half < 16; half++) {
                checkFirstHalf(n, half);
            }
        }
    }

    private static void checkFirstHalf(int n, int half) {
        DigitRows due = Slots.bench(n);
        putDecimal(due, 160, n == 0 ? "" : "5" + "2".repeat(n - 1));
        DigitRows x = Slots.bench(n);
        putDecimal(x, 160, n == 0 ? "" : "5" + "2".repeat(n - 1));
        x.put(160, half * 16 + x.byteOf(160));
        CHECKS.due("11: first half " + half, x.value(n, 160), due.value(n, 160));
        for (Slots.Slot slot : Slots.READ) {
            String what = slot.name() + ": " + n + " digits, first half " + half;
            CHECKS.due(what, slot.call().on(x, n, 160), slot.call().on(due, n, 160));
            CHECKS.due(what, hex(x, 0, 160), hex(due, 0, 160));
        }
    }

    private static void characterSigns() {
        for (int sign = 0; sign < 256; sign++) {
            boolean fine = sign == 43 || sign == 45 || sign == 32;
            for (int n : new int[] {0, 1, 31}) {
                DigitRows x = Slots.bench(0);
                putText(x, 200, (char) sign + "8".repeat(n));
                if (fine) {
                    CHECKS.due("13: sign " + sign, x.digits(n, 200, 31, Slots.TARGET),
                        n == 0 ? 4 : sign == 45 ? 8 : 0);
                } else {
                    refused("13: sign " + sign, x, -2, y -> y.digits(n, 200, 31, Slots.TARGET));
                }
            }
        }
    }

    private static void characterDigits() {
        for (int n = 1; n <= 31; n++) {
            for (int i = 1; i <= n; i++) {
                for (int c : new int[] {0, 32, 43, 45, 47, 48, 57, 58, 176, 255}) {
                    checkCharacterDigit(n, i, c);
                }
            }
        }
    }

    private static void checkCharacterDigit(int n, int i, int c) {
        DigitRows x = Slots.bench(0);
        putText(x, 200, "-" + "8".repeat(n));
        x.put(200 + i, c);
        String what = "13: " + n + " digits, character " + i + " is " + c;
        if (c >= 48 && c <= 57) {
            CHECKS.due(what, x.digits(n, 200, 31, Slots.TARGET), n == 1 && c == 48 ? 4 : 8);
        } else {
            refused(what, x, -2, y -> y.digits(n, 200, 31, Slots.TARGET));
        }
    }

    /** Each slot alone outside, while all that is read is none. */
    private static void outsideGoesAheadOfNone() {
        for (Slots.Slot slot : allSlots()) {
            for (int[] out : new int[][] {{-1, 0}, {32, 0}, {0, -1}, {0, 256}, {31, 241}}) {
                refused(slot.name() + " of no decimals: " + out[0] + " at " + out[1], filled(0xEE), -1,
                    x -> slot.call().on(x, out[0], out[1]));
            }
            // number() reads nothing that could be none.
            if (!slot.name().equals("number")) {
                refused(slot.name() + " of no decimals", filled(0x44), -2,
                    x -> slot.call().on(x, 1, 0));
            }
        }
        for (int by : new int[] {-100, 100}) {
            refused("8: no decimal by " + by, filled(0xEE), -1, x -> x.shift(1, 0, by, 0, 1, 9));
        }
        for (int up : new int[] {-1, 10}) {
            refused("8: no decimal up " + up, filled(0xEE), -1, x -> x.shift(1, 0, -1, up, 1, 9));
        }
    }

    private static void noneGoesAheadOfByZero() {
        for (String zero : new String[] {"", "0", "-0", "0".repeat(31)}) {
            DigitRows x = filled(0xEE);
            putDecimal(x, 0, zero);
            putDecimal(x, 32, "12");
            int n = size(zero);
            refused("7: by 0", x, -3, y -> y.quotient(n, 0, 2, 32, 2, 64));
            refused("7: 0 by 0", x, -3, y -> y.quotient(n, 0, n, 0, 2, 64));
            refused("7: none by 0", x, -2, y -> y.quotient(n, 0, 2, 100, 2, 64));
            refused("7: 12 by 0 in 32", x, -1, y -> y.quotient(n, 0, 2, 32, 32, 64));
            refused("7: 12 by 0 at 255", x, -1, y -> y.quotient(n, 0, 2, 32, 2, 255));
            refused("7: none at 255 by 0", x, -1, y -> y.quotient(n, 0, 2, 255, 2, 64));
        }
    }

    private static void onlyZeroDividesNot() {
        for (int n = 1; n <= 31; n++) {
            for (int i = 0; i < n; i++) {
                DigitRows x = Slots.bench(0);
                putDecimal(x, 160, "0".repeat(i) + "1" + "0".repeat(n - 1 - i));
                String left = "0".repeat(n - 1 - i) + "7".repeat(31 - (n - 1 - i));
                CHECKS.due("7: by 1 and " + (n - 1 - i) + " noughts",
                    x.quotient(n, 160, 31, Slots.FIXED, 31, Slots.TARGET), 0);
                CHECKS.due("7: by 1 and noughts", decimal(x, 31, Slots.TARGET), "+" + left);
            }
        }
    }
}
