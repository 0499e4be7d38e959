import java.math.BigInteger;
import java.util.Random;

/**
 * Compares long runs of calls with a second unit, written apart from the class: it holds bytes,
 * takes its fields out of a text of 32 digits, and reckons with BigInteger.
 */
public final class ReferenceTest {
    private static final int OBJECTS = 4000;
    private static final int CALLS = 60;
    private static final int[] OPS = {55, 23, 111, 103, 99, 3, 35, 15, 19, 51, 115, 3, 35, 99, 19, 51, 51};
    private static final int[] EDGES = {0, 1, -1, 2, -2, 4, 4092, 4095, 4096, Integer.MIN_VALUE, Integer.MAX_VALUE};

    public static void main(String[] args) {
        // A written seed: every run of this test is the same.
        Random random = new Random(20261115);
        for (int object = 0; object < OBJECTS; object++) {
            compareOneObject(object, random);
        }
        Due.end();
    }

    private static void compareOneObject(int object, Random random) {
        WordUnit unit = new WordUnit();
        Reference reference = new Reference();
        for (int call = 0; call < CALLS; call++) {
            compareOneCall("object " + object + ", call " + call, unit, reference, random);
        }
        for (int n = 0; n < 32; n++) {
            Due.due("object " + object + ", get(" + n + ")", reference.x[n].intValue(), unit.get(n));
        }
        for (int i = 0; i < 60; i++) {
            int address = random.nextInt(1024) * 4;
            Due.due("object " + object + ", word(" + address + ")", reference.wordAt(address), unit.word(address));
        }
    }

    private static void compareOneCall(String what, WordUnit unit, Reference reference, Random random) {
        int kind = random.nextInt(10);
        if (kind == 0) {
            int address = random.nextInt(1030) * 4 - 8;
            int[] w = {word(random), word(random), word(random), word(random), word(random)};
            Due.due(what + " poke " + address, reference.poke(address, w), unit.poke(address, w[0], w[1], w[2], w[3], w[4]));
        } else if (kind == 1) {
            int n = random.nextInt(34) - 1;
            int v = number(random);
            Due.due(what + " put " + n, reference.put(n, v), unit.put(n, v));
        } else if (kind == 2) {
            int pc = random.nextInt(4100);
            Due.due(what + " go " + pc, reference.go(pc), unit.go(pc));
        } else if (kind == 3) {
            Due.due(what + " step", reference.step(), unit.step());
        } else if (kind == 4) {
            int n = random.nextInt(40);
            Due.due(what + " run " + n, reference.run(n), unit.run(n));
        } else {
            int word = word(random);
            Due.due(what + " doWord " + word, reference.perform(word), unit.doWord(word));
        }
        Due.due(what + " PC", reference.pc.intValue(), unit.told(0));
        Due.due(what + " exception", reference.exception, unit.told(1));
        Due.due(what + " value", reference.value, unit.told(2));
        Due.due(what + " done", reference.done, unit.told(3));
    }

    private static int number(Random random) {
        int kind = random.nextInt(3);
        return kind == 0 ? EDGES[random.nextInt(EDGES.length)] : kind == 1 ? random.nextInt(4200) - 50 : random.nextInt();
    }

    private static int word(Random random) {
        if (random.nextInt(20) == 0) {
            return random.nextInt();
        }
        int word = random.nextInt() & ~127 | OPS[random.nextInt(OPS.length)];
        int g = new int[] {0, 1, 32, word >>> 25}[random.nextInt(4)];
        // Few registers, so that words meet what others have put there.
        word = word & ~(28 << 7 | 28 << 15);
        return (word & 0x01FFFFFF) | g << 25;
    }

    private static final class Reference {
        final byte[] memory = new byte[4096];
        final BigInteger[] x = new BigInteger[32];
        BigInteger pc = BigInteger.ZERO;
        int exception = -1;
        int value = 0;
        int done = 0;

        Reference() {
            java.util.Arrays.fill(x, BigInteger.ZERO);
        }

        int poke(int address, int[] words) {
            if (address < 0 || address % 4 != 0 || address + 19 > 4095) {
                return -1;
            }
            for (int i = 0; i < 20; i++) {
                memory[address + i] = (byte) (words[i / 4] >> 8 * (i % 4));
            }
            return 0;
        }

        int put(int n, int v) {
            if (n < 0 || n > 31) {
                return 0;
            }
            int old = x[n].intValue();
            set(n, BigInteger.valueOf(v));
            return old;
        }

        int go(int to) {
            if (to % 4 != 0) {
                return -1;
            }
            pc = BigInteger.valueOf(to);
            return 0;
        }

        int wordAt(int address) {
            return bytes(BigInteger.valueOf(address), 4).intValue();
        }

        int run(int n) {
            int count = 0;
            while (count < n && step() == -1) {
                count++;
            }
            return count;
        }

        int step() {
            return isOutside(pc) ? tell(1, pc) : perform(wordAt(pc.intValue()));
        }

        int perform(int word) {
            String bits = digits(word);
            int d = cut(bits, 11, 7).intValue();
            int f = cut(bits, 14, 12).intValue();
            int g = cut(bits, 31, 25).intValue();
            BigInteger s = x[cut(bits, 19, 15).intValue()];
            BigInteger t = x[cut(bits, 24, 20).intValue()];
            BigInteger i = signed(bits.substring(0, 12));
            BigInteger h = signed(bits.substring(0, 20) + "000000000000");
            BigInteger next = wrap(pc.add(BigInteger.valueOf(4)));
            switch (cut(bits, 6, 0).intValue()) {
                case 115: return tell(100, BigInteger.valueOf(word));
                case 55: return end(d, h, next);
                case 23: return end(d, pc.add(h), next);
                case 111: {
                    String j = bits.charAt(0) + bits.substring(12, 20) + bits.charAt(11) + bits.substring(1, 11) + "0";
                    return goOn(d, wrap(pc.add(signed(j))), next);
                }
                case 103: return f != 0 ? illegal(word) : goOn(d, wrap(s.add(i)).clearBit(0), next);
                case 99: {
                    String b = bits.charAt(0) + "" + bits.charAt(24) + bits.substring(1, 7) + bits.substring(20, 24) + "0";
                    int order = f < 6 ? s.compareTo(t) : unsigned(s).compareTo(unsigned(t));
                    boolean[] taken = {order == 0, order != 0, false, false, order < 0, order >= 0, order < 0, order >= 0};
                    return f == 2 || f == 3 ? illegal(word)
                            : taken[f] ? goOn(0, wrap(pc.add(signed(b))), next) : end(0, s, next);
                }
                case 3: return f == 3 || f > 5 ? illegal(word) : load(f, d, wrap(s.add(i)), next);
                case 35: return f > 2 ? illegal(word)
                        : store(1 << f, wrap(s.add(signed(bits.substring(0, 7) + bits.substring(20, 25)))), t, next);
                case 15: return f > 1 ? illegal(word) : end(0, s, next);
                case 19: {
                    boolean shift = f == 1 || f == 5;
                    boolean named = !shift || g == 0 || g == 32 && f == 5;
                    return !named ? illegal(word)
                            : end(d, reckon(f, shift ? g : 0, s, shift ? cut(bits, 24, 20) : i), next);
                }
                case 51: {
                    boolean named = g == 0 || g == 1 || g == 32 && (f == 0 || f == 5);
                    return !named ? illegal(word) : end(d, reckon(f, g, s, t), next);
                }
                default: return illegal(word);
            }
        }

        private static BigInteger reckon(int f, int g, BigInteger s, BigInteger t) {
            BigInteger us = unsigned(s);
            BigInteger ut = unsigned(t);
            int by = ut.mod(BigInteger.valueOf(32)).intValue();
            BigInteger power = BigInteger.TWO.pow(by);
            boolean none = t.signum() == 0;
            BigInteger all = BigInteger.ONE.negate();
            switch (g * 8 + f) {
                case 0: return s.add(t);
                case 1: return s.multiply(power);
                case 2: return s.compareTo(t) < 0 ? BigInteger.ONE : BigInteger.ZERO;
                case 3: return us.compareTo(ut) < 0 ? BigInteger.ONE : BigInteger.ZERO;
                case 4: return s.xor(t);
                case 5: return us.divide(power);
                case 6: return s.or(t);
                case 7: return s.and(t);
                case 8: return s.multiply(t);
                case 9: return s.multiply(t).shiftRight(32);
                case 10: return s.multiply(ut).shiftRight(32);
                case 11: return us.multiply(ut).shiftRight(32);
                case 12: return none ? all : s.divide(t);
                case 13: return none ? all : us.divide(ut);
                case 14: return none ? s : s.remainder(t);
                case 15: return none ? s : us.remainder(ut);
                case 256: return s.subtract(t);
                default: return s.shiftRight(by);
            }
        }

        private int load(int f, int d, BigInteger address, BigInteger next) {
            int size = new int[] {1, 2, 4, 0, 1, 2}[f];
            if (address.mod(BigInteger.valueOf(size)).signum() != 0) {
                return tell(4, address);
            }
            if (isOutside(address)) {
                return tell(5, address);
            }
            BigInteger got = bytes(address, size);
            boolean negative = f < 4 && got.testBit(size * 8 - 1);
            return end(d, negative ? got.subtract(BigInteger.TWO.pow(size * 8)) : got, next);
        }

        private int store(int size, BigInteger address, BigInteger what, BigInteger next) {
            if (address.mod(BigInteger.valueOf(size)).signum() != 0) {
                return tell(6, address);
            }
            if (isOutside(address)) {
                return tell(7, address);
            }
            for (int i = 0; i < size; i++) {
                memory[address.intValue() + i] = what.shiftRight(8 * i).byteValue();
            }
            return end(0, what, next);
        }

        private BigInteger bytes(BigInteger address, int size) {
            BigInteger sum = BigInteger.ZERO;
            for (int i = size - 1; i >= 0; i--) {
                sum = sum.multiply(BigInteger.valueOf(256)).add(BigInteger.valueOf(memory[address.intValue() + i] & 255));
            }
            return sum;
        }

        private int goOn(int d, BigInteger place, BigInteger next) {
            if (place.mod(BigInteger.valueOf(4)).signum() != 0) {
                return tell(0, place);
            }
            return end(d, next, place);
        }

        private int end(int d, BigInteger v, BigInteger next) {
            set(d, v);
            pc = next;
            exception = -1;
            value = 0;
            done++;
            return -1;
        }

        private int illegal(int word) {
            return tell(2, BigInteger.valueOf(word));
        }

        private int tell(int which, BigInteger what) {
            exception = which;
            value = what.intValue();
            return which;
        }

        private void set(int n, BigInteger v) {
            if (n != 0) {
                x[n] = wrap(v);
            }
        }

        private static boolean isOutside(BigInteger address) {
            return address.signum() < 0 || address.compareTo(BigInteger.valueOf(4095)) > 0;
        }

        private static BigInteger wrap(BigInteger number) {
            return BigInteger.valueOf(number.intValue());
        }

        private static BigInteger unsigned(BigInteger number) {
            return number.signum() < 0 ? number.add(BigInteger.TWO.pow(32)) : number;
        }

        private static String digits(int word) {
            String text = Integer.toBinaryString(word);
            return "0".repeat(32 - text.length()) + text;
        }

        private static BigInteger cut(String bits, int high, int low) {
            return new BigInteger(bits.substring(31 - high, 32 - low), 2);
        }

        private static BigInteger signed(String bits) {
            BigInteger number = new BigInteger(bits, 2);
            return bits.charAt(0) == '1' ? number.subtract(BigInteger.TWO.pow(bits.length())) : number;
        }
    }
}
