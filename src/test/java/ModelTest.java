import java.util.Map;
import java.util.Random;
import java.util.TreeMap;

/**
 * Runs of calls by a fixed seed; each answer and the whole memory beside the model. The runs go
 * beyond the 512 calls that are promised: the class counts none, so that is no other behaviour.
 */
public final class ModelTest {
    private static final int RUNS = 2000;
    private static final int CALLS = 250;
    private static final int[] ODD = {
        -1, 256, 257, 255, 240, 241, 32, 31, 30, Integer.MIN_VALUE, Integer.MAX_VALUE, -2, 100, -100
    };

    private final Checks checks = new Checks();
    private final Random random = new Random(20261115L);
    private final Map<String, Integer> answers = new TreeMap<>();
    private DigitRows rows;
    private Model model;

    public static void main(String[] args) {
        ModelTest test = new ModelTest();
        for (int run = 0; run < RUNS; run++) {
            test.run(run);
        }
        test.checkSpread();
        test.checks.end();
    }

    /** Runs in which nearly all is refused would show nothing. */
    private void checkSpread() {
        for (String call : new String[] {"sum", "less", "product", "quotient", "shift", "compare",
                "number", "characters", "digits", "edit"}) {
            for (String kind : new String[] {"done", "-1", "-2", "-3"}) {
                boolean possible = kind.equals("done") || kind.equals("-1")
                    || kind.equals("-2") && !call.equals("number") || call.equals("quotient");
                int seen = answers.getOrDefault(call + " " + kind, 0);
                if (possible && seen < 300) {
                    checks.tell("too few answers to show anything: " + call + " " + kind + " " + seen);
                }
            }
        }
    }

    private void run(int run) {
        rows = new DigitRows();
        model = new Model();
        for (int call = 0; call < CALLS; call++) {
            String what;
            try {
                what = "run " + run + " call " + call + ": " + anyCall();
            } catch (RuntimeException thrown) {
                checks.tell("run " + run + " call " + call + " threw " + thrown);
                return;
            }
            if (!sameMemory()) {
                checks.tell(what + " left another memory");
                return;
            }
        }
    }

    private boolean sameMemory() {
        for (int i = 0; i < 256; i++) {
            if (rows.byteOf(i) != model.memory[i]) {
                return false;
            }
        }
        return rows.significant() == model.significant;
    }

    private String anyCall() {
        int kind = random.nextInt(18);
        if (kind < 4) {
            return work(kind);
        }
        if (kind < 7) {
            return layDecimal();
        }
        if (kind < 11) {
            return layPatternAndEdit();
        }
        return other(kind);
    }

    private String work(int kind) {
        int n = size();
        int a = place(n);
        int m = size();
        int b = place(m);
        int k = size();
        int c = place(k);
        String what = "of (" + n + "," + a + "," + m + "," + b + "," + k + "," + c + ")";
        if (kind == 0) {
            return answer("sum " + what, rows.sum(n, a, m, b, k, c), model.sum(n, a, m, b, k, c));
        }
        if (kind == 1) {
            return answer("less " + what, rows.less(n, a, m, b, k, c), model.less(n, a, m, b, k, c));
        }
        if (kind == 2) {
            return answer("product " + what, rows.product(n, a, m, b, k, c),
                model.product(n, a, m, b, k, c));
        }
        return answer("quotient " + what, rows.quotient(n, a, m, b, k, c),
            model.quotient(n, a, m, b, k, c));
    }

    private String other(int kind) {
        int n = size();
        int a = place(n);
        int m = size();
        int b = place(m);
        String what = " of (" + n + "," + a + "," + m + "," + b + ")";
        switch (kind) {
            case 11:
                int by = random.nextInt(20) == 0 ? odd() : random.nextInt(4) == 0
                    ? random.nextInt(199) - 99 : random.nextInt(20) - 10;
                int up = random.nextInt(20) == 0 ? odd() : random.nextInt(10);
                return answer("shift " + by + " " + up + what, rows.shift(n, a, by, up, m, b),
                    model.shift(n, a, by, up, m, b));
            case 12:
                return answer("compare" + what, rows.compare(n, a, m, b), model.compare(n, a, m, b));
            case 13:
                int v = random.nextInt() >> random.nextInt(32);
                return answer("number " + v + what, rows.number(v, n, a), model.number(v, n, a));
            case 14:
                long got = rows.value(n, a);
                checks.due("value" + what, got, model.value(n, a));
                return "value" + what;
            case 15:
                return answer("characters" + what, rows.characters(n, a, m, b),
                    model.characters(n, a, m, b));
            case 16:
                return layCharacters(n, a, m, b);
            default:
                int at = random.nextInt(10) == 0 ? odd() : random.nextInt(256);
                int all = random.nextInt();
                checks.due("put", rows.put(at, all), model.put(at, all));
                checks.due("byteOf", rows.byteOf(at), model.byteOf(at));
                return "put " + at;
        }
    }

    /** Digits with many 0 and 9, since carries and ends are there. */
    private int digit() {
        int kind = random.nextInt(6);
        return kind < 2 ? 0 : kind == 2 ? 9 : random.nextInt(10);
    }

    private String layDecimal() {
        int bytes = random.nextInt(17);
        int at = lane();
        for (int i = 0; i < bytes; i++) {
            lay(at + i, digit() * 16 + digit());
        }
        lay(at + bytes, digit() * 16 + (random.nextInt(40) == 0 ? digit() : 10 + random.nextInt(6)));
        return "a decimal laid at " + at;
    }

    private String layCharacters(int n, int a, int m, int b) {
        if (random.nextInt(8) != 0 && n >= 0 && n <= 31 && a >= 0 && a <= 255) {
            lay(a, "+- ".charAt(random.nextInt(3)));
            for (int i = 1; i <= n; i++) {
                lay(a + i, random.nextInt(300) == 0 ? random.nextInt(256) : 48 + digit());
            }
        }
        return answer("digits of (" + n + "," + a + "," + m + "," + b + ")",
            rows.digits(n, a, m, b), model.digits(n, a, m, b));
    }

    private String layPatternAndEdit() {
        int n = size();
        int a = place(n);
        int b = random.nextInt(12) == 0 ? odd() : random.nextInt(257);
        int p = random.nextInt(30) == 0 ? odd() : random.nextInt(4) == 0 ? 190 : random.nextInt(256);
        if (p >= 0 && p < 256 && random.nextInt(8) != 0) {
            layPattern(p, n);
        }
        return answer("edit of (" + n + "," + a + "," + p + "," + b + ")", rows.edit(n, a, p, b),
            model.edit(n, a, p, b));
    }

    private void layPattern(int p, int n) {
        int left = Math.min(n, 31);
        int at = p;
        int most = random.nextInt(10) == 0 ? 70 : random.nextInt(10);
        for (int i = 0; i < most || left > 0; i++) {
            int kind = random.nextInt(14);
            if (kind < 4 && left > 0 || i >= most) {
                int x = Math.max(1, Math.min(Math.min(15, left), 1 + random.nextInt(8)));
                lay(at++, (kind % 2 == 0 ? 144 : 160) + x);
                left -= x;
            } else if (kind == 4) {
                lay(at++, 129 + random.nextInt(most > 20 ? 1 : 6));
            } else if (kind == 5 && random.nextInt(40) == 0) {
                lay(at++, random.nextInt(256));
            } else if (kind < 9) {
                lay(at++, 1 + random.nextInt(3));
            } else {
                int code = kind == 13 ? 8 : 4 + random.nextInt(4);
                lay(at++, code);
                lay(at++, code == 8 ? random.nextInt(4) : random.nextInt(256));
            }
        }
        lay(at, 0);
    }

    private void lay(int at, int b) {
        rows.put(at, b);
        model.put(at, b);
    }

    private int odd() {
        return ODD[random.nextInt(ODD.length)];
    }

    private int size() {
        return random.nextInt(60) == 0 ? odd() : random.nextInt(32);
    }

    /** Few places for the last byte, so that what is written is often read again. */
    private int place(int n) {
        if (random.nextInt(60) == 0) {
            return odd();
        }
        return lastByte() - Math.max(0, Math.min(31, n)) / 2;
    }

    private int lane() {
        return random.nextInt(20) == 0 ? random.nextInt(256) : Math.max(0, lastByte() - 16);
    }

    private int lastByte() {
        return random.nextInt(20) == 0 ? random.nextInt(256) : 16 + 17 * random.nextInt(4);
    }

    private String answer(String what, int got, int want) {
        checks.due(what, got, want);
        String call = what.substring(0, what.indexOf(' '));
        answers.merge(call + " " + (want < 0 ? String.valueOf(want) : "done"), 1, Integer::sum);
        return what;
    }
}
