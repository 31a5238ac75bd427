import java.util.Arrays;

/**
 * Decimals of up to 31 digits in a memory of 256 bytes, worked on exactly.
 *
 * Every call reads all that it needs into rows of digits before it writes a byte, so places may
 * overlap freely and a refused call leaves the memory as it was.
 */
public final class DigitRows {
    private static final int MEMORY_SIZE = 256;
    private static final int MOST_DIGITS = 31;
    private static final int MOST_SHIFT = 99;
    private static final int MOST_ROUND = 9;
    private static final int MOST_CHARACTERS = 64;
    private static final int LAST_STEP = 64;

    // A sum of two decimals, and a decimal times one digit, may have one digit more.
    private static final int WORK_DIGITS = MOST_DIGITS + 1;
    // The longest result is the longest decimal after the widest shift to the left.
    private static final int ROW_WIDTH = MOST_DIGITS + MOST_SHIFT;

    private static final int FINE = 0;
    private static final int OUTSIDE = -1;
    private static final int UNREADABLE = -2;
    private static final int BY_ZERO = -3;

    private static final int FLAG_BELOW = 8;
    private static final int FLAG_ZERO = 4;
    private static final int FLAG_LOST = 2;

    private static final int SIGN_PLUS = 12;
    private static final int SIGN_MINUS = 13;
    private static final int OTHER_MINUS = 11;
    private static final int LOWEST_SIGN = 10;

    private static final int BLANK = 32;
    private static final int PLUS = 43;
    private static final int MINUS = 45;
    private static final int DIGIT_ZERO = 48;

    private final int[] memory;
    private final Row first;
    private final Row second;
    private final Row rest;
    private final Row result;
    private final Writing writing;
    private boolean endedSignificant;

    public DigitRows() {
        memory = new int[MEMORY_SIZE];
        first = new Row();
        second = new Row();
        rest = new Row();
        result = new Row();
        writing = new Writing();
        endedSignificant = false;
    }

    public boolean put(int at, int b) {
        if (at < 0 || at >= MEMORY_SIZE) {
            return false;
        }
        memory[at] = b & 255;
        return true;
    }

    public int byteOf(int at) {
        if (at < 0 || at >= MEMORY_SIZE) {
            return -1;
        }
        return memory[at];
    }

    public int sum(int n, int a, int m, int b, int k, int c) {
        int refusal = readOperands(n, a, m, b, k, c);
        if (refusal != FINE) {
            return refusal;
        }
        result.addSigned(second, first);
        return writeDecimal(result, k, c);
    }

    public int less(int n, int a, int m, int b, int k, int c) {
        int refusal = readOperands(n, a, m, b, k, c);
        if (refusal != FINE) {
            return refusal;
        }
        first.minus = !first.minus;
        result.addSigned(second, first);
        return writeDecimal(result, k, c);
    }

    public int product(int n, int a, int m, int b, int k, int c) {
        int refusal = readOperands(n, a, m, b, k, c);
        if (refusal != FINE) {
            return refusal;
        }
        result.multiply(first, second);
        return writeDecimal(result, k, c);
    }

    public int quotient(int n, int a, int m, int b, int k, int c) {
        int refusal = readOperands(n, a, m, b, k, c);
        if (refusal != FINE) {
            return refusal;
        }
        if (first.isZero()) {
            return BY_ZERO;
        }
        result.divide(second, first, rest);
        return writeDecimal(result, k, c);
    }

    public int shift(int n, int a, int by, int up, int m, int b) {
        if (!decimalFits(n, a) || !decimalFits(m, b)) {
            return OUTSIDE;
        }
        if (by < -MOST_SHIFT || by > MOST_SHIFT || up < 0 || up > MOST_ROUND) {
            return OUTSIDE;
        }
        if (!readDecimal(first, n, a)) {
            return UNREADABLE;
        }
        result.moveLeft(first, by);
        if (by < 0 && first.digitAt(-by - 1) + up > 9) {
            result.addOne();
        }
        return writeDecimal(result, m, b);
    }

    public int compare(int n, int a, int m, int b) {
        if (!decimalFits(n, a) || !decimalFits(m, b)) {
            return OUTSIDE;
        }
        if (!readDecimal(first, n, a) || !readDecimal(second, m, b)) {
            return UNREADABLE;
        }
        int order = first.orderSigned(second);
        if (order == 0) {
            return FLAG_ZERO;
        }
        return order < 0 ? FLAG_BELOW : 0;
    }

    public int number(int v, int n, int a) {
        if (!decimalFits(n, a)) {
            return OUTSIDE;
        }
        result.take(v);
        return writeDecimal(result, n, a);
    }

    public long value(int n, int a) {
        if (!decimalFits(n, a) || !readDecimal(first, n, a)) {
            return 0L;
        }
        return first.lowestBits();
    }

    public int characters(int n, int a, int m, int b) {
        if (!decimalFits(n, a) || !charactersFit(m, b)) {
            return OUTSIDE;
        }
        if (!readDecimal(first, n, a)) {
            return UNREADABLE;
        }
        int flags = first.flagsOfLowest(m);
        put(b, (flags & FLAG_BELOW) != 0 ? MINUS : PLUS);
        for (int i = 0; i < m; i++) {
            put(b + m - i, DIGIT_ZERO + first.digitAt(i));
        }
        return flags;
    }

    public int digits(int n, int a, int m, int b) {
        if (!charactersFit(n, a) || !decimalFits(m, b)) {
            return OUTSIDE;
        }
        if (!readCharacters(result, n, a)) {
            return UNREADABLE;
        }
        return writeDecimal(result, m, b);
    }

    public int edit(int n, int a, int p, int b) {
        if (!decimalFits(n, a)) {
            return OUTSIDE;
        }
        if (!readDecimal(first, n, a)) {
            return UNREADABLE;
        }
        writing.begin(first, n);
        if (!followPattern(p)) {
            return UNREADABLE;
        }
        if (b < 0 || b > MEMORY_SIZE || writing.count > MEMORY_SIZE - b) {
            return OUTSIDE;
        }
        for (int i = 0; i < writing.count; i++) {
            put(b + i, writing.characterAt(i));
        }
        endedSignificant = writing.significance;
        return writing.count;
    }

    public boolean significant() {
        return endedSignificant;
    }

    private static boolean decimalFits(int n, int at) {
        return n >= 0 && n <= MOST_DIGITS && at >= 0 && at < MEMORY_SIZE - n / 2;
    }

    private static boolean charactersFit(int n, int at) {
        return n >= 0 && n <= MOST_DIGITS && at >= 0 && at < MEMORY_SIZE - n;
    }

    private int readOperands(int n, int a, int m, int b, int k, int c) {
        if (!decimalFits(n, a) || !decimalFits(m, b) || !decimalFits(k, c)) {
            return OUTSIDE;
        }
        if (!readDecimal(first, n, a) || !readDecimal(second, m, b)) {
            return UNREADABLE;
        }
        return FINE;
    }

    // Halves are counted from the sign (half 0) on: so digit i, lowest first, is half i + 1 for
    // every n, and the first half byte of an even n is never met.
    private int halfFromEnd(int n, int at, int half) {
        int whole = byteOf(at + n / 2 - half / 2);
        return half % 2 == 0 ? whole & 15 : (whole >> 4) & 15;
    }

    private boolean readDecimal(Row row, int n, int at) {
        int sign = halfFromEnd(n, at, 0);
        if (sign < LOWEST_SIGN) {
            return false;
        }
        row.clear();
        for (int i = 0; i < n; i++) {
            int digit = halfFromEnd(n, at, i + 1);
            if (digit > 9) {
                return false;
            }
            row.setDigit(i, digit);
        }
        row.setSign(sign == SIGN_MINUS || sign == OTHER_MINUS);
        return true;
    }

    private boolean readCharacters(Row row, int n, int at) {
        int sign = byteOf(at);
        if (sign != PLUS && sign != MINUS && sign != BLANK) {
            return false;
        }
        row.clear();
        for (int i = 0; i < n; i++) {
            int digit = byteOf(at + n - i) - DIGIT_ZERO;
            if (digit < 0 || digit > 9) {
                return false;
            }
            row.setDigit(i, digit);
        }
        row.setSign(sign == MINUS);
        return true;
    }

    private int writeDecimal(Row row, int n, int at) {
        int flags = row.flagsOfLowest(n);
        int low = (flags & FLAG_BELOW) != 0 ? SIGN_MINUS : SIGN_PLUS;
        int bytes = n / 2 + 1;
        for (int i = 0; i < bytes; i++) {
            int high = 2 * i < n ? row.digitAt(2 * i) : 0;
            put(at + n / 2 - i, high * 16 + low);
            low = row.digitAt(2 * i + 1);
        }
        return flags;
    }

    private boolean followPattern(int p) {
        int at = p;
        for (int step = 1; step <= LAST_STEP; step++) {
            int code = byteOf(at);
            if (code == 0) {
                return writing.digitsLeft == 0;
            }
            // Left here when beyond memory, so that at + 1 never runs over the highest int.
            if (code < 0 || step == LAST_STEP) {
                return false;
            }
            if (!writing.obey(code, byteOf(at + 1))) {
                return false;
            }
            at += Writing.takesNext(code) ? 2 : 1;
        }
        return false;
    }

    /** A whole number: its digits, lowest first, and whether it is below 0. */
    private static final class Row {
        private final int[] places;
        boolean minus;

        Row() {
            places = new int[ROW_WIDTH];
            minus = false;
        }

        int digitAt(int i) {
            return i >= 0 && i < ROW_WIDTH ? places[i] : 0;
        }

        void setDigit(int i, int digit) {
            if (i >= 0 && i < ROW_WIDTH) {
                places[i] = digit;
            }
        }

        void clear() {
            Arrays.fill(places, 0);
            minus = false;
        }

        // A 0 is never below 0, whatever sign it was read with.
        void setSign(boolean below) {
            minus = below && !isZero();
        }

        boolean isZero() {
            return !hasDigit(0, ROW_WIDTH);
        }

        boolean hasDigit(int from, int end) {
            for (int i = from; i < end; i++) {
                if (digitAt(i) != 0) {
                    return true;
                }
            }
            return false;
        }

        int flagsOfLowest(int kept) {
            int flags = 0;
            if (!hasDigit(0, kept)) {
                flags = FLAG_ZERO;
            } else if (minus) {
                flags = FLAG_BELOW;
            }
            return hasDigit(kept, ROW_WIDTH) ? flags | FLAG_LOST : flags;
        }

        void take(int v) {
            clear();
            // As a long, since the lowest int has no int for its size.
            long size = Math.abs((long) v);
            for (int i = 0; i < MOST_DIGITS; i++) {
                setDigit(i, (int) (size % 10));
                size /= 10;
            }
            minus = v < 0;
        }

        long lowestBits() {
            long bits = 0L;
            for (int i = MOST_DIGITS - 1; i >= 0; i--) {
                bits = bits * 10 + digitAt(i);
            }
            return minus ? -bits : bits;
        }

        int orderOfSizes(Row other) {
            for (int i = WORK_DIGITS - 1; i >= 0; i--) {
                if (digitAt(i) != other.digitAt(i)) {
                    return digitAt(i) < other.digitAt(i) ? -1 : 1;
                }
            }
            return 0;
        }

        int orderSigned(Row other) {
            if (minus != other.minus) {
                return minus ? -1 : 1;
            }
            int order = orderOfSizes(other);
            return minus ? -order : order;
        }

        void addSigned(Row x, Row y) {
            clear();
            if (x.minus == y.minus) {
                addSizes(x, y);
                minus = x.minus;
            } else if (x.orderOfSizes(y) >= 0) {
                subtractSizes(x, y);
                minus = x.minus;
            } else {
                subtractSizes(y, x);
                minus = y.minus;
            }
        }

        private void addSizes(Row x, Row y) {
            int carry = 0;
            for (int i = 0; i < WORK_DIGITS; i++) {
                int digit = x.digitAt(i) + y.digitAt(i) + carry;
                carry = digit / 10;
                setDigit(i, digit % 10);
            }
        }

        // x is at least y; this row may be x itself.
        private void subtractSizes(Row x, Row y) {
            int borrow = 0;
            for (int i = 0; i < WORK_DIGITS; i++) {
                int digit = x.digitAt(i) - y.digitAt(i) - borrow;
                borrow = digit < 0 ? 1 : 0;
                setDigit(i, digit + 10 * borrow);
            }
        }

        void addOne() {
            int carry = 1;
            for (int i = 0; i < WORK_DIGITS && carry > 0; i++) {
                int digit = digitAt(i) + carry;
                carry = digit / 10;
                setDigit(i, digit % 10);
            }
        }

        void multiply(Row x, Row y) {
            clear();
            for (int i = 0; i < MOST_DIGITS; i++) {
                if (x.digitAt(i) != 0) {
                    addMultiple(y, x.digitAt(i), i);
                }
            }
            minus = x.minus != y.minus;
        }

        private void addMultiple(Row y, int factor, int from) {
            int carry = 0;
            for (int i = 0; i < WORK_DIGITS; i++) {
                int digit = digitAt(from + i) + factor * y.digitAt(i) + carry;
                carry = digit / 10;
                setDigit(from + i, digit % 10);
            }
        }

        // The caller has seen that the divisor is not 0; were it 0, every digit would be 9.
        void divide(Row x, Row divisor, Row rest) {
            clear();
            rest.clear();
            for (int i = MOST_DIGITS - 1; i >= 0; i--) {
                rest.bringDown(x.digitAt(i));
                setDigit(i, rest.takeAway(divisor));
            }
            minus = x.minus != divisor.minus;
        }

        private void bringDown(int digit) {
            for (int i = WORK_DIGITS - 1; i > 0; i--) {
                setDigit(i, digitAt(i - 1));
            }
            setDigit(0, digit);
        }

        private int takeAway(Row divisor) {
            int times = 0;
            while (times < 9 && orderOfSizes(divisor) >= 0) {
                subtractSizes(this, divisor);
                times++;
            }
            return times;
        }

        void moveLeft(Row x, int by) {
            clear();
            for (int i = 0; i < MOST_DIGITS; i++) {
                setDigit(i + by, x.digitAt(i));
            }
            minus = x.minus;
        }
    }

    /** The characters that a pattern writes, and what it keeps in mind meanwhile. */
    private static final class Writing {
        private static final int SIGNIFICANCE_OFF = 1;
        private static final int SIGNIFICANCE_ON = 2;
        private static final int WRITE_SIGN = 3;
        private static final int NEXT_IS_FILL = 4;
        private static final int NEXT_IS_SIGN = 5;
        private static final int NEXT_IS_MINUS_SIGN = 6;
        private static final int NEXT_IF_SIGNIFICANT = 7;
        private static final int FILL_IF_ZERO = 8;
        private static final int FILLS = 128;
        private static final int PLAIN_DIGITS = 144;
        private static final int SIGNED_DIGITS = 160;
        private static final int MOST_AT_ONCE = 15;

        private final int[] written;
        private final int[] digitsToTake;
        int count;
        int digitsLeft;
        boolean significance;
        private boolean below;
        private boolean zero;
        private int fill;
        private int sign;

        Writing() {
            written = new int[MOST_CHARACTERS];
            digitsToTake = new int[MOST_DIGITS];
        }

        void begin(Row row, int n) {
            for (int i = 0; i < MOST_DIGITS; i++) {
                digitsToTake[i] = row.digitAt(i);
            }
            count = 0;
            digitsLeft = n;
            significance = false;
            below = row.minus;
            zero = row.isZero();
            fill = BLANK;
            sign = below ? MINUS : BLANK;
        }

        static boolean takesNext(int code) {
            return code >= NEXT_IS_FILL && code <= FILL_IF_ZERO;
        }

        int characterAt(int i) {
            return i >= 0 && i < MOST_CHARACTERS ? written[i] : BLANK;
        }

        // next is the byte behind the code, or -1 if that is beyond memory; false is a fault.
        boolean obey(int code, int next) {
            if (isRun(code, SIGNED_DIGITS)) {
                return writeDigits(code - SIGNED_DIGITS, true);
            }
            if (isRun(code, PLAIN_DIGITS)) {
                return writeDigits(code - PLAIN_DIGITS, false);
            }
            if (isRun(code, FILLS)) {
                return writeFills(code - FILLS);
            }
            if (takesNext(code)) {
                return next >= 0 && obeyWithNext(code, next);
            }
            if (code == SIGNIFICANCE_OFF || code == SIGNIFICANCE_ON) {
                significance = code == SIGNIFICANCE_ON;
                return true;
            }
            return code == WRITE_SIGN && write(sign);
        }

        private static boolean isRun(int code, int kind) {
            return code > kind && code <= kind + MOST_AT_ONCE;
        }

        private boolean obeyWithNext(int code, int next) {
            switch (code) {
                case NEXT_IS_FILL:
                    fill = next;
                    return true;
                case NEXT_IS_SIGN:
                    sign = below ? sign : next;
                    return true;
                case NEXT_IS_MINUS_SIGN:
                    sign = below ? next : sign;
                    return true;
                case NEXT_IF_SIGNIFICANT:
                    return write(significance ? next : fill);
                case FILL_IF_ZERO:
                    return fillLast(next);
                default:
                    return false;
            }
        }

        private boolean write(int character) {
            if (count < 0 || count >= MOST_CHARACTERS) {
                return false;
            }
            written[count] = character;
            count++;
            return true;
        }

        private boolean writeFills(int many) {
            for (int i = 0; i < many; i++) {
                if (!write(fill)) {
                    return false;
                }
            }
            return true;
        }

        private boolean writeDigits(int many, boolean signed) {
            if (many > digitsLeft) {
                return false;
            }
            for (int i = 0; i < many; i++) {
                digitsLeft--;
                if (!writeDigit(digitsLeft, signed)) {
                    return false;
                }
            }
            return true;
        }

        private boolean writeDigit(int i, boolean signed) {
            int digit = i >= 0 && i < MOST_DIGITS ? digitsToTake[i] : 0;
            if (digit == 0 && !significance) {
                return write(fill);
            }
            boolean signIsDue = signed && !significance;
            significance = true;
            if (signIsDue && !write(sign)) {
                return false;
            }
            return write(DIGIT_ZERO + digit);
        }

        // Too many is a fault for every decimal, though only a 0 is filled.
        private boolean fillLast(int many) {
            if (many > count) {
                return false;
            }
            for (int i = count - many; zero && i < count; i++) {
                if (i >= 0 && i < MOST_CHARACTERS) {
                    written[i] = fill;
                }
            }
            return true;
        }
    }
}
