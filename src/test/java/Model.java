import java.math.BigInteger;
import java.util.ArrayList;
import java.util.List;

/** The document once more, told by BigInteger, texts and lists, to be compared with the class. */
final class Model {
    private static final class Refused extends Exception {
        private static final long serialVersionUID = 1L;
        final int answer;

        Refused(int answer) {
            this.answer = answer;
        }
    }

    private interface Work {
        BigInteger of(BigInteger a, BigInteger b) throws Refused;
    }

    final int[] memory = new int[256];
    boolean significant = false;

    boolean put(int at, int b) {
        if (byteOf(at) == -1) {
            return false;
        }
        memory[at] = Math.floorMod(b, 256);
        return true;
    }

    int byteOf(int at) {
        return at < 0 || at > 255 ? -1 : memory[at];
    }

    int sum(int n, int a, int m, int b, int k, int c) {
        return work((x, y) -> y.add(x), n, a, m, b, k, c);
    }

    int less(int n, int a, int m, int b, int k, int c) {
        return work((x, y) -> y.subtract(x), n, a, m, b, k, c);
    }

    int product(int n, int a, int m, int b, int k, int c) {
        return work((x, y) -> x.multiply(y), n, a, m, b, k, c);
    }

    int quotient(int n, int a, int m, int b, int k, int c) {
        return work((x, y) -> {
            if (x.signum() == 0) {
                throw new Refused(-3);
            }
            return y.divide(x);
        }, n, a, m, b, k, c);
    }

    int shift(int n, int a, int by, int up, int m, int b) {
        try {
            inMemory(n, a, n / 2 + 1);
            inMemory(m, b, m / 2 + 1);
            if (Math.abs((long) by) > 99 || up < 0 || up > 9) {
                throw new Refused(-1);
            }
            BigInteger x = decimal(n, a);
            if (by >= 0) {
                return write(x.multiply(BigInteger.TEN.pow(by)), m, b);
            }
            // The last digit that goes out stands alone behind the point: up is so many tenths.
            BigInteger tenths = x.abs().divide(BigInteger.TEN.pow(-by - 1));
            BigInteger size = tenths.add(BigInteger.valueOf(up)).divide(BigInteger.TEN);
            return write(x.signum() < 0 ? size.negate() : size, m, b);
        } catch (Refused refused) {
            return refused.answer;
        }
    }

    int compare(int n, int a, int m, int b) {
        try {
            inMemory(n, a, n / 2 + 1);
            inMemory(m, b, m / 2 + 1);
            int order = decimal(n, a).compareTo(decimal(m, b));
            return order < 0 ? 8 : order == 0 ? 4 : 0;
        } catch (Refused refused) {
            return refused.answer;
        }
    }

    int number(int v, int n, int a) {
        try {
            inMemory(n, a, n / 2 + 1);
            return write(BigInteger.valueOf(v), n, a);
        } catch (Refused refused) {
            return refused.answer;
        }
    }

    long value(int n, int a) {
        try {
            inMemory(n, a, n / 2 + 1);
            return decimal(n, a).longValue();
        } catch (Refused refused) {
            return 0L;
        }
    }

    int characters(int n, int a, int m, int b) {
        try {
            inMemory(n, a, n / 2 + 1);
            inMemory(m, b, m + 1);
            BigInteger x = decimal(n, a);
            BigInteger left = x.remainder(BigInteger.TEN.pow(m));
            String text = (left.signum() < 0 ? "-" : "+") + padded(left, m);
            for (int i = 0; i < text.length(); i++) {
                memory[b + i] = text.charAt(i);
            }
            return flags(x, m);
        } catch (Refused refused) {
            return refused.answer;
        }
    }

    int digits(int n, int a, int m, int b) {
        try {
            inMemory(n, a, n + 1);
            inMemory(m, b, m / 2 + 1);
            StringBuilder text = new StringBuilder();
            for (int i = 0; i <= n; i++) {
                text.append((char) memory[a + i]);
            }
            if (!text.toString().matches("[-+ ][0-9]*")) {
                throw new Refused(-2);
            }
            BigInteger size = new BigInteger("0" + text.substring(1));
            return write(text.charAt(0) == '-' ? size.negate() : size, m, b);
        } catch (Refused refused) {
            return refused.answer;
        }
    }

    int edit(int n, int a, int p, int b) {
        try {
            inMemory(n, a, n / 2 + 1);
            List<Integer> out = new ArrayList<>();
            boolean ended = pattern(decimal(n, a), n, p, out);
            if (b < 0 || b > 256 || b + out.size() > 256) {
                throw new Refused(-1);
            }
            for (int i = 0; i < out.size(); i++) {
                memory[b + i] = out.get(i);
            }
            significant = ended;
            return out.size();
        } catch (Refused refused) {
            return refused.answer;
        }
    }

    private boolean pattern(BigInteger x, int n, int p, List<Integer> out) throws Refused {
        String digits = padded(x, n);
        int fill = 32;
        int sign = x.signum() < 0 ? 45 : 32;
        boolean significance = false;
        int at = p;
        int told = 0;
        while (true) {
            int code = patternByte(at++);
            told++;
            if (code == 0) {
                if (!digits.isEmpty()) {
                    throw new Refused(-2);
                }
                return significance;
            }
            if (told == 64) {
                throw new Refused(-2);
            }
            int next = code >= 4 && code <= 8 ? patternByte(at++) : -1;
            int many = code & 15;
            if (code == 1 || code == 2) {
                significance = code == 2;
            } else if (code == 3) {
                out.add(sign);
            } else if (code == 4) {
                fill = next;
            } else if (code == 5 && x.signum() >= 0 || code == 6 && x.signum() < 0) {
                sign = next;
            } else if (code == 7) {
                out.add(significance ? next : fill);
            } else if (code == 8) {
                if (next > out.size()) {
                    throw new Refused(-2);
                }
                for (int i = 1; i <= next && x.signum() == 0; i++) {
                    out.set(out.size() - i, fill);
                }
            } else if (many > 0 && code - many == 128) {
                for (int i = 0; i < many; i++) {
                    out.add(fill);
                }
            } else if (many > 0 && (code - many == 144 || code - many == 160)) {
                if (many > digits.length()) {
                    throw new Refused(-2);
                }
                for (char digit : digits.substring(0, many).toCharArray()) {
                    if (digit != '0' && !significance) {
                        if (code > 160) {
                            out.add(sign);
                        }
                        significance = true;
                    }
                    out.add(significance ? (int) digit : fill);
                }
                digits = digits.substring(many);
            } else if (code != 5 && code != 6) {
                throw new Refused(-2);
            }
            if (out.size() > 64) {
                throw new Refused(-2);
            }
        }
    }

    private int patternByte(int at) throws Refused {
        if (byteOf(at) == -1) {
            throw new Refused(-2);
        }
        return memory[at];
    }

    private int work(Work work, int n, int a, int m, int b, int k, int c) {
        try {
            inMemory(n, a, n / 2 + 1);
            inMemory(m, b, m / 2 + 1);
            inMemory(k, c, k / 2 + 1);
            BigInteger x = decimal(n, a);
            BigInteger y = decimal(m, b);
            return write(work.of(x, y), k, c);
        } catch (Refused refused) {
            return refused.answer;
        }
    }

    private static void inMemory(int n, int at, int bytes) throws Refused {
        if (n < 0 || n > 31 || at < 0 || (long) at + bytes > 256) {
            throw new Refused(-1);
        }
    }

    private BigInteger decimal(int n, int at) throws Refused {
        StringBuilder halves = new StringBuilder();
        for (int i = 0; i <= n / 2; i++) {
            halves.append(String.format("%02x", memory[at + i]));
        }
        String told = halves.substring(halves.length() - n - 1);
        if (!told.matches("[0-9]*[a-f]")) {
            throw new Refused(-2);
        }
        BigInteger size = new BigInteger("0" + told.substring(0, n));
        return "bd".indexOf(told.charAt(n)) >= 0 ? size.negate() : size;
    }

    private int write(BigInteger x, int n, int at) {
        BigInteger left = x.remainder(BigInteger.TEN.pow(n));
        String halves = (n % 2 == 0 ? "0" : "") + padded(left, n) + (left.signum() < 0 ? "d" : "c");
        for (int i = 0; i < halves.length(); i += 2) {
            memory[at + i / 2] = Integer.parseInt(halves.substring(i, i + 2), 16);
        }
        return flags(x, n);
    }

    private static int flags(BigInteger x, int n) {
        BigInteger[] parts = x.divideAndRemainder(BigInteger.TEN.pow(n));
        return (parts[1].signum() < 0 ? 8 : 0) + (parts[1].signum() == 0 ? 4 : 0)
            + (parts[0].signum() != 0 ? 2 : 0);
    }

    private static String padded(BigInteger x, int n) {
        String text = x.signum() == 0 ? "" : x.abs().toString();
        return "0".repeat(n - text.length()) + text;
    }
}
