import java.util.List;

/**
 * Every place in a call where a number of digits and a byte of memory are named, each with the
 * rest of its call in order, so that one test can go through all of them.
 */
final class Slots {
    static final int FIXED = 48;
    static final int TARGET = 64;
    static final int SIGNED = 80;
    static final int PATTERN = 84;
    static final int OUT = 90;

    /** A call with one number of digits and its place left open. */
    interface Open {
        long on(DigitRows x, int n, int at);
    }

    record Slot(String name, Open call) { }

    static final List<Slot> READ = List.of(
        new Slot("sum 1", (x, n, at) -> x.sum(n, at, 31, FIXED, 31, TARGET)),
        new Slot("sum 2", (x, n, at) -> x.sum(31, FIXED, n, at, 31, TARGET)),
        new Slot("less 1", (x, n, at) -> x.less(n, at, 31, FIXED, 31, TARGET)),
        new Slot("less 2", (x, n, at) -> x.less(31, FIXED, n, at, 31, TARGET)),
        new Slot("product 1", (x, n, at) -> x.product(n, at, 31, FIXED, 31, TARGET)),
        new Slot("product 2", (x, n, at) -> x.product(31, FIXED, n, at, 31, TARGET)),
        new Slot("quotient 1", (x, n, at) -> x.quotient(n, at, 31, FIXED, 31, TARGET)),
        new Slot("quotient 2", (x, n, at) -> x.quotient(31, FIXED, n, at, 31, TARGET)),
        new Slot("shift 1", (x, n, at) -> x.shift(n, at, -1, 5, 31, TARGET)),
        new Slot("compare 1", (x, n, at) -> x.compare(n, at, 31, FIXED)),
        new Slot("compare 2", (x, n, at) -> x.compare(31, FIXED, n, at)),
        new Slot("characters 1", (x, n, at) -> x.characters(n, at, 31, OUT)),
        new Slot("edit", (x, n, at) -> x.edit(n, at, PATTERN, OUT)));

    static final List<Slot> WRITTEN = List.of(
        new Slot("sum 3", (x, n, at) -> x.sum(31, FIXED, 31, FIXED, n, at)),
        new Slot("less 3", (x, n, at) -> x.less(0, FIXED + 15, 31, FIXED, n, at)),
        new Slot("product 3", (x, n, at) -> x.product(31, FIXED, 31, FIXED, n, at)),
        new Slot("quotient 3", (x, n, at) -> x.quotient(31, FIXED, 31, FIXED, n, at)),
        new Slot("shift 2", (x, n, at) -> x.shift(31, FIXED, 1, 0, n, at)),
        new Slot("number", (x, n, at) -> x.number(7, n, at)),
        new Slot("digits 2", (x, n, at) -> x.digits(1, SIGNED, n, at)));

    static final Slot VALUE = new Slot("value", (x, n, at) -> x.value(n, at));
    static final Slot CHARACTERS_READ =
        new Slot("digits 1", (x, n, at) -> x.digits(n, at, 31, TARGET));
    static final Slot CHARACTERS_WRITTEN =
        new Slot("characters 2", (x, n, at) -> x.characters(31, FIXED, n, at));

    private Slots() { }

    /** All that the slots' calls need, for n digits; no byte elsewhere is what a result writes. */
    static DigitRows bench(int n) {
        DigitRows x = MemoryTestKit.filled(0xEE);
        MemoryTestKit.putDecimal(x, FIXED, "7".repeat(31));
        MemoryTestKit.putText(x, SIGNED, "+5");
        MemoryTestKit.putPattern(x, PATTERN, 0);
        // Nothing is written by it, but significant() is true from here on.
        x.edit(0, FIXED + 15, PATTERN, OUT);
        MemoryTestKit.putPattern(x, PATTERN, n);
        return x;
    }
}
