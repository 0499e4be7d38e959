/** The sentences of the document's Terms that name a boundary case, each with a test of its own. */
public final class EdgesOfTermsTest {
    private static final int MIN = Integer.MIN_VALUE, MAX = Integer.MAX_VALUE;
    private static final int PC = Edge.PC;
    private static final int[] PCS = {0, 40, 4088, 4092, 4096, -8, MIN, MAX - 7};

    public static void main(String[] args) {
        numbersWrapAround();
        numbersWithAndWithoutSign();
        memoryHasBytes0To4095();
        lowestByteIsFirst();
        whatIsPutToX0IsLost();
        fieldsHaveTheirBits();
        numberI();
        numberT();
        numberB();
        numberH();
        numberJ();
        illegalWords();
        systemWords();
        op55();
        op23();
        op111();
        op103();
        op99();
        placeThatIsNoMultipleOf4();
        placeOutsideMemory();
        op3();
        op35();
        op15();
        op19();
        op19Shifts();
        op51Plain();
        op51Shifts();
        op51Products();
        op51Quotients();
        quotientBy0();
        restBy0();
        leastNumberByMinus1();
        twoBytesAtAnOddAddress();
        wordNotAtAMultipleOf4();
        byteThatIsNotOfMemory();
        lookedAtBehindThat();
        noWordAtThePc();
        pcGoesOnBy4();
        nothingChangesAtAnException();
        valueOfAnException();
        Due.end();
    }

    // ---- numbers, memory, registers

    private static void numbersWrapAround() {
        Due.sentence("Terms: Numbers have 32 bits, two's complement");
        dueSum(MAX, 0, MAX);
        dueSum(MAX, 1, MIN);
        dueSum(MAX, 2047, MIN + 2046);
        dueSum(MIN, 0, MIN);
        dueSum(MIN, -1, MAX);
        dueSum(MIN, -2048, MAX - 2047);
        dueSum(-1, 1, 0);
        dueX5(Words.registers(0, 0, 5, 1, 2), MAX, MAX, -2);
        dueX5(Words.registers(0, 0, 5, 1, 2), MIN, MIN, 0);
        dueX5(Words.registers(32, 0, 5, 1, 2), MIN, 1, MAX);
        dueX5(Words.registers(32, 0, 5, 1, 2), MAX, -1, MIN);
        dueX5(Words.registers(32, 0, 5, 1, 2), 0, MIN, MIN);
        dueX5(Words.registers(32, 0, 5, 1, 2), MIN, MIN, 0);
        dueX5(Words.registers(1, 0, 5, 1, 2), MAX, 2, -2);
        dueX5(Words.registers(1, 0, 5, 1, 2), 65536, 32768, MIN);
        dueX5(Words.registers(1, 0, 5, 1, 2), 65536, 65536, 0);
    }

    /** x[a] + I by op 19, and the same by op 51. */
    private static void dueSum(int x, int i, int want) {
        dueX5(Words.add(5, 1, i), x, 77, want);
        dueX5(Words.registers(0, 0, 5, 1, 2), x, i, want);
        dueX5(Words.registers(0, 0, 5, 1, 2), i, x, want);
    }

    private static void numbersWithAndWithoutSign() {
        Due.sentence("Terms: U: as without sign");
        // x, y, whether x is less, whether it is so U
        int[][] rows = {{0, 0, 0, 0}, {0, 1, 1, 1}, {1, 0, 0, 0}, {-1, 0, 1, 0}, {0, -1, 0, 1}, {MIN, MAX, 1, 0},
            {MAX, MIN, 0, 1}, {MIN, MIN, 0, 0}, {MAX, MAX, 0, 0}, {-1, -2, 0, 0}, {-2, -1, 1, 1}, {MIN, 0, 1, 0},
            {0, MIN, 0, 1}, {MIN, MIN + 1, 1, 1}, {MAX - 1, MAX, 1, 1}, {-1, MIN, 0, 0}, {MIN, -1, 1, 1}};
        for (int[] r : rows) {
            dueX5(Words.registers(0, 2, 5, 1, 2), r[0], r[1], r[2]);
            dueX5(Words.registers(0, 3, 5, 1, 2), r[0], r[1], r[3]);
            dueBranch(4, r[0], r[1], r[2] == 1);
            dueBranch(5, r[0], r[1], r[2] == 0);
            dueBranch(6, r[0], r[1], r[3] == 1);
            dueBranch(7, r[0], r[1], r[3] == 0);
        }
    }

    private static void memoryHasBytes0To4095() {
        Due.sentence("Terms: MEMORY: bytes 0 .. 4,095");
        for (int at : new int[] {0, 1, 4094, 4095}) {
            int want = Edge.fullWord(at) >> 8 * (at % 4) & 255;
            full().put(1, at).done("byte " + at, Words.load(4, 5, 1, 0), Edge.x(5), want);
            int mask = 255 << 8 * (at % 4);
            full().put(1, at).put(2, -1).done("byte " + at, Words.store(0, 1, 2, 0),
                    Edge.word(at), Edge.fullWord(at) | mask);
        }
        for (int at : new int[] {-1, -2, 4096, 4097, 8191, 8192, -4096, 65536, MIN, MAX}) {
            full().put(1, at).exception("byte " + at, Words.load(0, 5, 1, 0), 5, at);
            full().put(1, at).exception("byte " + at, Words.load(4, 5, 1, 0), 5, at);
            full().put(1, at).exception("byte " + at, Words.store(0, 1, 2, 0), 7, at);
        }
    }

    private static void lowestByteIsFirst() {
        Due.sentence("Terms: four in a WORD, the lowest first");
        for (int at : new int[] {0, 4092}) {
            for (int i = 0; i < 4; i++) {
                int word = 0x84838281;
                full().place(at, word).put(1, at).done("byte " + i, Words.load(4, 5, 1, i), Edge.x(5), 0x81 + i);
                int[] stored = {0x848382AA, 0x8483AA81, 0x84AA8281, 0xAA838281};
                full().place(at, word).put(1, at).put(2, 0x112233AA).done("byte " + i, Words.store(0, 1, 2, i),
                        Edge.word(at), stored[i]);
            }
            full().place(at, 0x84838281).put(1, at).done("lower two", Words.load(5, 5, 1, 0), Edge.x(5), 0x8281);
            full().place(at, 0x84838281).put(1, at).done("upper two", Words.load(5, 5, 1, 2), Edge.x(5), 0x8483);
        }
    }

    private static void whatIsPutToX0IsLost() {
        Due.sentence("Terms: Registers x0 (always 0) to x31; what is put to x0 is lost");
        full().done("55", Words.withH(55, 0, -4096));
        full().done("23", Words.withH(23, 0, -4096));
        full().done("111", Words.jump(0, 8), PC, 2008);
        full().done("103", Words.jumpRegister(0, 0, 8), PC, 8);
        full().done("3", Words.load(2, 0, 0, 0));
        full().done("19", Words.add(0, 0, 1));
        full().done("51", Words.registers(0, 0, 0, 1, 2));
        full().done("x[a] of 19", Words.add(5, 0, 7), Edge.x(5), 7);
        full().done("x[a] and x[b] of 51", Words.registers(0, 6, 5, 0, 0), Edge.x(5), 0);
        full().done("x[b] of 35", Words.store(2, 0, 0, 0), Edge.word(0), 0);
        full().put(1, 0).done("x[a] and x[b] of 99", Words.branch(0, 0, 1, 8), PC, 2008);
        full().done("x31 is put to", Words.add(31, 0, 7), Edge.x(31), 7);
        full().done("x31 is read", Words.registers(0, 0, 5, 31, 0), Edge.x(5), Edge.fullRegister(31));
        full().done("x31 is stored", Words.store(2, 0, 31, 0), Edge.word(0), Edge.fullRegister(31));
        full().exception("an exception of a load to x0", Words.load(2, 0, 0, -4), 5, -4);
        full().exception("an exception of a jump with x0", Words.jump(0, 2), 0, 2002);
    }

    // ---- fields and numbers of a word

    private static void fieldsHaveTheirBits() {
        Due.sentence("Terms: A word has fields: op (bits 6 .. 0), d (11 .. 7), f (14 .. 12), a (19 .. 15), b (24 .. 20), g (31 .. 25)");
        int[] lowest = {0, 7, 12, 15, 20, 25};
        int[] highest = {6, 11, 14, 19, 24, 31};
        WordUnit x = new WordUnit();
        for (int bit = 0; bit < 32; bit++) {
            for (int which = 0; which < 6; which++) {
                boolean isIn = bit >= lowest[which] && bit <= highest[which];
                int one = isIn ? 1 << (bit - lowest[which]) : 0;
                int all = (1 << (highest[which] - lowest[which] + 1)) - 1;
                Due.due("bit " + bit + " alone, field " + which, one, x.field(1 << bit, which));
                Due.due("all but bit " + bit + ", field " + which, all - one, x.field(~(1 << bit), which));
            }
        }
    }

    private static void numberI() {
        Due.sentence("Terms: I is bits 31 .. 20, with sign");
        WordUnit x = new WordUnit();
        for (int i = -2048; i <= 2047; i++) {
            x = i % 128 == 0 ? new WordUnit() : x;
            Due.due("I " + i, i, x.field(Words.withI(0, 0, 0, 0, i), 6));
            Due.due("I " + i + ", other bits set", i, x.field(Words.withI(127, 7, 31, 31, i), 6));
        }
        dueBits(6, new int[] {-1, -1, -1, -1, -1, -1, -1, -1, -1, -1, -1, -1, -1, -1, -1, -1, -1, -1, -1, -1,
            0, 1, 2, 3, 4, 5, 6, 7, 8, 9, 10, 11});
    }

    private static void numberT() {
        Due.sentence("Terms: T is g and d (bits 11 .. 5, 4 .. 0), with sign");
        dueBits(7, new int[] {-1, -1, -1, -1, -1, -1, -1, 0, 1, 2, 3, 4, -1, -1, -1, -1, -1, -1, -1, -1,
            -1, -1, -1, -1, -1, 5, 6, 7, 8, 9, 10, 11});
        dueOneNumber(7, Words.store(0, 0, 0, 2047), 2047);
        dueOneNumber(7, Words.store(7, 31, 31, -2048), -2048);
        dueOneNumber(7, Words.store(7, 31, 31, -1), -1);
    }

    private static void numberB() {
        Due.sentence("Terms: B is bit 31, 7, 30 .. 25, 11 .. 8 (bits 12, 11, 10 .. 5, 4 .. 1), with sign");
        dueBits(8, new int[] {-1, -1, -1, -1, -1, -1, -1, 11, 1, 2, 3, 4, -1, -1, -1, -1, -1, -1, -1, -1,
            -1, -1, -1, -1, -1, 5, 6, 7, 8, 9, 10, 12});
        dueOneNumber(8, Words.branch(0, 0, 0, 4094), 4094);
        dueOneNumber(8, Words.branch(7, 31, 31, -4096), -4096);
        dueOneNumber(8, Words.branch(7, 31, 31, -2), -2);
    }

    private static void numberH() {
        Due.sentence("Terms: H is bits 31 .. 12 and twelve 0");
        dueBits(9, new int[] {-1, -1, -1, -1, -1, -1, -1, -1, -1, -1, -1, -1, 12, 13, 14, 15, 16, 17, 18, 19,
            20, 21, 22, 23, 24, 25, 26, 27, 28, 29, 30, 31});
        dueOneNumber(9, 4095, 0);
        dueOneNumber(9, MAX, MAX - 4095);
        dueOneNumber(9, -1, -4096);
    }

    private static void numberJ() {
        Due.sentence("Terms: J is bit 31, 19 .. 12, 20, 30 .. 21 (bits 20, 19 .. 12, 11, 10 .. 1), with sign");
        dueBits(10, new int[] {-1, -1, -1, -1, -1, -1, -1, -1, -1, -1, -1, -1, 12, 13, 14, 15, 16, 17, 18, 19,
            11, 1, 2, 3, 4, 5, 6, 7, 8, 9, 10, 20});
        dueOneNumber(10, Words.jump(0, 1048574), 1048574);
        dueOneNumber(10, Words.jump(31, -1048576), -1048576);
        dueOneNumber(10, Words.jump(31, -2), -2);
    }

    /** Of each bit of a word, which bit of a number it is (-1: none); bit 31 of the word is the sign. */
    private static void dueBits(int which, int[] bitOf) {
        WordUnit x = new WordUnit();
        int[] worth = new int[32];
        int all = 0;
        for (int bit = 0; bit < 32; bit++) {
            worth[bit] = bitOf[bit] < 0 ? 0 : bit == 31 ? -1 << bitOf[bit] : 1 << bitOf[bit];
            all += worth[bit];
        }
        for (int bit = 0; bit < 32; bit++) {
            Due.due("bit " + bit + " alone, number " + which, worth[bit], x.field(1 << bit, which));
            Due.due("all but bit " + bit + ", number " + which, all - worth[bit], x.field(~(1 << bit), which));
        }
    }

    private static void dueOneNumber(int which, int word, int want) {
        Due.due("field(" + word + ", " + which + ")", want, new WordUnit().field(word, which));
    }

    // ---- words that are not named, and SYSTEM

    private static void illegalWords() {
        Due.sentence("Terms: What is not named here is ILLEGAL: exception 2");
        for (int op = 0; op < 128; op++) {
            for (int f = 0; f < 8; f++) {
                for (int g : new int[] {0, 1, 2, 31, 32, 33, 63, 64, 96, 127}) {
                    dueNamedOrNot(g << 25 | 3 << 20 | 2 << 15 | f << 12 | 5 << 7 | op, isNamed(op, f, g));
                }
            }
        }
        for (int op : new int[] {19, 51}) {
            for (int f = 0; f < 8; f++) {
                for (int g = 0; g < 128; g++) {
                    dueNamedOrNot(g << 25 | 31 << 20 | 31 << 15 | f << 12 | 31 << 7 | op, isNamed(op, f, g));
                }
            }
        }
        for (int word : new int[] {0, -1, 127, 103 | 1 << 12, 103 | 7 << 12, 99 | 2 << 12, 99 | 3 << 12, 3 | 3 << 12,
            3 | 6 << 12, 3 | 7 << 12, 35 | 3 << 12, 35 | 4 << 12, 35 | 7 << 12, 15 | 2 << 12, 15 | 7 << 12,
            Words.shift(1, 1, 5, 1, 1), Words.shift(32, 1, 5, 1, 1), Words.shift(31, 5, 5, 1, 1),
            Words.shift(33, 5, 5, 1, 1), Words.registers(2, 0, 5, 1, 2), Words.registers(32, 1, 5, 1, 2),
            Words.registers(32, 4, 5, 1, 2), Words.registers(32, 6, 5, 1, 2), Words.registers(33, 0, 5, 1, 2)}) {
            full().exception("an illegal word", word, 2, word);
        }
    }

    private static void dueNamedOrNot(int word, boolean named) {
        WordUnit x = new WordUnit();
        Due.due("field(" + word + ", 11)", named ? 1 : 0, x.field(word, 11));
        Due.dueTrue("doWord(" + word + ") is " + (named ? "not " : "") + "2", named == (x.doWord(word) != 2));
        Due.dueTrue("told(2) of " + word, named || x.told(2) == word);
    }

    private static boolean isNamed(int op, int f, int g) {
        return switch (op) {
            case 55, 23, 111, 115 -> true;
            case 103 -> f == 0;
            case 99 -> f == 0 || f == 1 || f >= 4;
            case 3 -> f == 0 || f == 1 || f == 2 || f == 4 || f == 5;
            case 35 -> f == 0 || f == 1 || f == 2;
            case 15 -> f == 0 || f == 1;
            case 19 -> f == 1 ? g == 0 : f == 5 ? g == 0 || g == 32 : true;
            case 51 -> g == 0 || g == 1 || g == 32 && f == 0 || g == 32 && f == 5;
            default -> false;
        };
    }

    private static void systemWords() {
        Due.sentence("Terms: but op 115 is SYSTEM: exception 100");
        for (int rest : new int[] {0, -1, 1, 2, 1 << 5, 7 << 5, 1 << 13, 2 << 13, 1 << 24, MIN, MAX}) {
            int word = rest << 7 | 115;
            full().exception("SYSTEM", word, 100, word);
        }
        for (int pc : PCS) {
            Edge.at(pc).exception("SYSTEM at " + pc, 115, 100, 115);
        }
    }

    // ---- ops 55, 23, 111, 103, 99

    private static void op55() {
        Due.sentence("Terms: 55: x[d] is H.");
        for (int h : new int[] {0, 4096, MAX - 4095, MIN, -4096}) {
            for (int d : new int[] {1, 31}) {
                full().done("55", Words.withH(55, d, h), Edge.x(d), h);
            }
        }
    }

    private static void op23() {
        Due.sentence("Terms: 23: x[d] is PC + H.");
        Edge.at(0).done("23", Words.withH(23, 5, 0), Edge.x(5), 0);
        Edge.at(4092).done("23", Words.withH(23, 5, MAX), Edge.x(5), MAX - 3);
        Edge.at(4092).done("23", Words.withH(23, 31, -4096), Edge.x(31), -4);
        Edge.at(4096).done("23 over the upper end", Words.withH(23, 5, MAX), Edge.x(5), MIN);
        Edge.at(MAX - 3).done("23 over the upper end", Words.withH(23, 5, 4096), Edge.x(5), MIN + 4092, PC, MIN);
        Edge.at(MIN).done("23 over the lower end", Words.withH(23, 5, -4096), Edge.x(5), MAX - 4095, PC, MIN + 4);
        Edge.at(MIN).done("23 over the lower end", Words.withH(23, 5, MIN), Edge.x(5), 0, PC, MIN + 4);
        Edge.at(-4).done("23 over 0", Words.withH(23, 5, 4096), Edge.x(5), 4092, PC, 0);
    }

    private static void op111() {
        Due.sentence("Terms: 111: x[d] is PC + 4, on at PC + J.");
        full().done("the farthest forth", Words.jump(5, 1048572), Edge.x(5), 2004, PC, 1050572);
        full().done("the farthest back", Words.jump(5, -1048576), Edge.x(5), 2004, PC, -1046576);
        full().done("to itself", Words.jump(5, 0), Edge.x(5), 2004, PC, 2000);
        Edge.at(0).done("over 0", Words.jump(5, -4), Edge.x(5), 4, PC, -4);
        Edge.at(-4).done("over 0", Words.jump(5, 8), Edge.x(5), 0, PC, 4);
        Edge.at(MAX - 3).done("over the upper end", Words.jump(5, 4), Edge.x(5), MIN, PC, MIN);
        Edge.at(MAX - 3).done("back, PC + 4 over the upper end", Words.jump(5, -4), Edge.x(5), MIN, PC, MAX - 7);
        Edge.at(MIN).done("over the lower end", Words.jump(5, -4), Edge.x(5), MIN + 4, PC, MAX - 3);
    }

    private static void op103() {
        Due.sentence("Terms: 103, f 0: on at x[a] + I with bit 0 cleared, x[d] is PC + 4 (by the old x[a])");
        full().put(1, 100).done("even", Words.jumpRegister(5, 1, 0), Edge.x(5), 2004, PC, 100);
        full().put(1, 101).done("bit 0 of x[a]", Words.jumpRegister(5, 1, 0), Edge.x(5), 2004, PC, 100);
        full().put(1, 100).done("bit 0 of I", Words.jumpRegister(5, 1, 1), Edge.x(5), 2004, PC, 100);
        full().put(1, 101).done("bit 0 is cleared behind the sum", Words.jumpRegister(5, 1, -1), Edge.x(5), 2004, PC, 100);
        full().put(1, 103).done("bit 0 is cleared behind the sum", Words.jumpRegister(5, 1, 1), Edge.x(5), 2004, PC, 104);
        full().put(1, 0).done("the greatest I", Words.jumpRegister(5, 1, 2045), Edge.x(5), 2004, PC, 2044);
        full().put(1, 0).done("the least I", Words.jumpRegister(5, 1, -2048), Edge.x(5), 2004, PC, -2048);
        full().put(1, MAX).done("over the upper end", Words.jumpRegister(5, 1, 1), Edge.x(5), 2004, PC, MIN);
        full().put(1, MIN).done("over the lower end", Words.jumpRegister(5, 1, -3), Edge.x(5), 2004, PC, MAX - 3);
        full().put(1, -1).done("over 0", Words.jumpRegister(5, 1, 1), Edge.x(5), 2004, PC, 0);
        full().put(1, 100).done("the old x[a]", Words.jumpRegister(1, 1, 4), Edge.x(1), 2004, PC, 104);
        Edge.at(MAX - 3).put(1, 100).done("PC + 4 over the upper end", Words.jumpRegister(5, 1, 0), Edge.x(5), MIN, PC, 100);
        for (int f = 1; f < 8; f++) {
            int word = Words.withI(103, f, 5, 0, 2);
            full().exception("103, f " + f, word, 2, word);
        }
    }

    private static void op99() {
        Due.sentence("Terms: 99: on at PC + B, if f 0: x[a] = x[b], 1: not, 4: less, 5: not, 6: less U, 7: not");
        int[][] pairs = {{0, 0}, {1, 1}, {MIN, MIN}, {-1, -1}, {0, 1}, {MIN, MAX}, {MIN, 0}, {0, 65536}, {-1, 1}};
        for (int[] p : pairs) {
            dueBranch(0, p[0], p[1], p[0] == p[1]);
            dueBranch(0, p[1], p[0], p[0] == p[1]);
            dueBranch(1, p[0], p[1], p[0] != p[1]);
            dueBranch(1, p[1], p[0], p[0] != p[1]);
        }
        full().done("the farthest forth", Words.branch(0, 0, 0, 4092), PC, 6092);
        full().done("the farthest back", Words.branch(0, 0, 0, -4096), PC, -2096);
        full().done("to itself", Words.branch(0, 0, 0, 0), PC, 2000);
        Edge.at(0).done("over 0", Words.branch(0, 0, 0, -4), PC, -4);
        Edge.at(-4).done("over 0", Words.branch(0, 0, 0, 8), PC, 4);
        Edge.at(MAX - 3).done("over the upper end", Words.branch(0, 0, 0, 4), PC, MIN);
        Edge.at(MIN).done("over the lower end", Words.branch(0, 0, 0, -4), PC, MAX - 3);
        for (int f = 2; f < 4; f++) {
            full().exception("99, f " + f, Words.branch(f, 0, 0, 2), 2, Words.branch(f, 0, 0, 2));
        }
    }

    private static void dueBranch(int f, int xa, int xb, boolean goes) {
        Edge edge = full().put(1, xa).put(2, xb);
        edge.done("99, f " + f + ", of " + xa + ", " + xb, Words.branch(f, 1, 2, 16), PC, goes ? 2016 : 2004);
    }

    private static void placeThatIsNoMultipleOf4() {
        Due.sentence("Terms: A place to go on at that is no multiple of 4 is exception 0 (of this instruction; x[d] stays).");
        full().exception("111", Words.jump(5, 2), 0, 2002);
        full().exception("111", Words.jump(5, -2), 0, 1998);
        full().exception("111, the greatest J", Words.jump(5, 1048574), 0, 1050574);
        full().exception("111, the least such J", Words.jump(5, -1048574), 0, -1046574);
        full().exception("99", Words.branch(0, 0, 0, 2), 0, 2002);
        full().exception("99", Words.branch(5, 0, 0, -2), 0, 1998);
        full().exception("99, the greatest B", Words.branch(0, 0, 0, 4094), 0, 6094);
        full().exception("99, the least such B", Words.branch(0, 0, 0, -4094), 0, -2094);
        for (int xa : new int[] {102, 103}) {
            full().put(1, xa).exception("103", Words.jumpRegister(5, 1, 0), 0, 102);
            full().put(1, xa).exception("103, d is a", Words.jumpRegister(1, 1, 0), 0, 102);
        }
        full().put(1, MAX).exception("103", Words.jumpRegister(5, 1, 0), 0, MAX - 1);
        full().put(1, MAX).exception("103 over the upper end", Words.jumpRegister(5, 1, 3), 0, MIN + 2);
        full().put(1, MIN).exception("103 over the lower end", Words.jumpRegister(5, 1, -1), 0, MAX - 1);
        Edge.at(MAX - 3).exception("111 over the upper end", Words.jump(5, 6), 0, MIN + 2);
        Edge.at(MIN).exception("111 over the lower end", Words.jump(5, -2), 0, MAX - 1);
        Edge.at(MAX - 3).exception("99 over the upper end", Words.branch(0, 0, 0, 6), 0, MIN + 2);
        Edge.at(MIN).exception("99 over the lower end", Words.branch(0, 0, 0, -2), 0, MAX - 1);
        Due.sentence("Terms: A place to go on at: only where the word goes on there");
        for (int f : new int[] {1, 4, 6}) {
            full().done("99, f " + f + ", does not go there", Words.branch(f, 0, 0, 2));
        }
    }

    private static void placeOutsideMemory() {
        Due.sentence("Terms: a word at the PC that is not [of memory]: exception 1 (of the step there, not of the jump)");
        for (int place : new int[] {4096, -4}) {
            WordUnit x = new WordUnit();
            x.put(1, place);
            x.poke(0, Words.jumpRegister(5, 1, 0), 0, 0, 0, 0);
            Due.due("run(2000)", 1, x.run(2000));
            Due.due("the PC", place, x.told(0));
            Due.due("the exception", 1, x.told(1));
            Due.due("its value", place, x.told(2));
            Due.due("x5", 4, x.get(5));
            Due.due("done", 1, x.told(3));
        }
    }

    // ---- loads and stores

    private static void op3() {
        Due.sentence("Terms: 3: x[d] is loaded from x[a] + I: f 0 a byte with sign, 1 two bytes with sign, 2 a word, 4 a byte U, 5 two bytes U");
        // the word, then by f 0, 1, 2, 4, 5
        int[][] rows = {{0, 0, 0, 0, 0, 0}, {0x7F, 127, 127, 127, 127, 127}, {0x80, -128, 128, 128, 128, 128},
            {0xFF, -1, 255, 255, 255, 255}, {0x100, 0, 256, 256, 0, 256}, {0x7FFF, -1, 32767, 32767, 255, 32767},
            {0x8000, 0, -32768, 32768, 0, 32768}, {0xFFFF, -1, -1, 65535, 255, 65535}, {0x10000, 0, 0, 65536, 0, 0},
            {MIN, 0, 0, MIN, 0, 0}, {MAX, -1, -1, MAX, 255, 65535}, {-1, -1, -1, -1, 255, 65535}};
        int[] fs = {0, 1, 2, 4, 5};
        for (int[] r : rows) {
            for (int i = 0; i < fs.length; i++) {
                Edge edge = full().place(4092, r[0]).put(1, 4092);
                edge.done("3, f " + fs[i] + ", of " + r[0], Words.load(fs[i], 5, 1, 0), Edge.x(5), r[i + 1]);
            }
        }
        dueLoadAt(4095 - 2047, 2047, 4095);
        dueLoadAt(4095 + 2048, -2048, 4095);
        dueLoadAt(-2047, 2047, 0);
        dueLoadAt(2048, -2048, 0);
        dueLoadAt(-1, 1, 0);
        full().put(1, 4092).done("d is a", Words.load(2, 1, 1, 0), Edge.x(1), Edge.fullWord(4092));
    }

    private static void dueLoadAt(int xa, int i, int address) {
        int want = Edge.fullWord(address) >> 8 * (address % 4) & 255;
        full().put(1, xa).done("a load from " + xa + " + " + i, Words.load(4, 5, 1, i), Edge.x(5), want);
    }

    private static void op35() {
        Due.sentence("Terms: 35: the lowest byte (f 0), two bytes (1), word (2) of x[b] is stored at x[a] + T");
        for (int at : new int[] {0, 4092}) {
            dueStore(0, at, 0, 0x111111EF);
            dueStore(0, at, 1, 0x1111EF11);
            dueStore(0, at, 2, 0x11EF1111);
            dueStore(0, at, 3, 0xEF111111);
            dueStore(1, at, 0, 0x1111CDEF);
            dueStore(1, at, 2, 0xCDEF1111);
            dueStore(2, at, 0, 0x89ABCDEF);
        }
        dueStoreAt(4092 - 2047, 2047, 4092);
        dueStoreAt(4092 + 2048, -2048, 4092);
        dueStoreAt(-2047, 2047, 0);
        dueStoreAt(2048, -2048, 0);
        dueStoreAt(-1, 1, 0);
        dueStoreAt(32, -32, 0);
        full().put(1, 4092).done("x[b] is x[a]", Words.store(2, 1, 1, 0), Edge.word(4092), 4092);
    }

    private static void dueStore(int f, int at, int t, int want) {
        Edge edge = full().place(at, 0x11111111).put(1, at).put(2, 0x89ABCDEF);
        edge.done("35, f " + f + ", at " + at + " + " + t, Words.store(f, 1, 2, t), Edge.word(at), want);
    }

    private static void dueStoreAt(int xa, int t, int address) {
        full().put(1, xa).put(2, 5).done("a store at " + xa + " + " + t, Words.store(2, 1, 2, t), Edge.word(address), 5);
    }

    private static void op15() {
        Due.sentence("Terms: 15, f 0 or 1: nothing.");
        for (int rest : new int[] {0, -1}) {
            for (int f = 0; f < 8; f++) {
                int word = Words.withI(15, f, rest & 31, rest & 31, rest);
                if (f < 2) {
                    full().done("15, f " + f, word);
                } else {
                    full().exception("15, f " + f, word, 2, word);
                }
            }
        }
    }

    // ---- ops 19 and 51

    private static void op19() {
        Due.sentence("Terms: 19: x[d] is, by f, 0: x[a] + I; 2: 1 if x[a] is less than I, else 0; 3: so U; 4: xor; 6: or; 7: and");
        // x[a], I, then by f 0, 2, 3, 4, 6, 7
        int[][] rows = {{0, 0, 0, 0, 0, 0, 0, 0}, {MIN, -2048, MAX - 2047, 1, 1, MAX - 2047, -2048, MIN},
            {MAX, 2047, MIN + 2046, 0, 0, MAX - 2047, MAX, 2047}, {-1, -1, -2, 0, 0, 0, -1, -1},
            {0, -1, -1, 0, 1, -1, -1, 0}, {-1, 0, -1, 1, 0, -1, -1, 0}, {2046, 2047, 4093, 1, 1, 1, 2047, 2046},
            {2047, 2047, 4094, 0, 0, 0, 2047, 2047}, {2048, 2047, 4095, 0, 0, 4095, 4095, 0},
            {-2049, -2048, -4097, 1, 1, 4095, -1, -4096}, {-2048, -2048, -4096, 0, 0, 0, -2048, -2048},
            {-2047, -2048, -4095, 0, 0, 1, -2047, -2048}, {MAX, -1, MAX - 1, 0, 1, MIN, -1, MAX},
            {MIN, 0, MIN, 1, 0, MIN, MIN, 0}};
        int[] fs = {0, 2, 3, 4, 6, 7};
        for (int[] r : rows) {
            for (int i = 0; i < fs.length; i++) {
                dueX5(Words.withI(19, fs[i], 5, 1, r[1]), r[0], 77, r[i + 2]);
            }
        }
    }

    private static void op19Shifts() {
        Due.sentence("Terms: 19: 1, g 0: x[a] shifted left by b; 5, g 0: right, U; 5, g 32: right, with sign");
        // x[a], b, then left, right U, right with sign
        int[][] rows = {{-1, 0, -1, -1, -1}, {-1, 1, -2, MAX, -1}, {-1, 31, MIN, 1, -1}, {1, 31, MIN, 0, 0},
            {MIN, 31, 0, 1, -1}, {MIN, 0, MIN, MIN, MIN}, {MIN, 1, 0, 1 << 30, -(1 << 30)}, {MAX, 31, MIN, 0, 0},
            {MAX, 30, -(1 << 30), 1, 1}, {0x12345678, 16, 0x56780000, 0x1234, 0x1234}};
        for (int[] r : rows) {
            dueX5(Words.shift(0, 1, 5, 1, r[1]), r[0], 77, r[2]);
            dueX5(Words.shift(0, 5, 5, 1, r[1]), r[0], 77, r[3]);
            dueX5(Words.shift(32, 5, 5, 1, r[1]), r[0], 77, r[4]);
        }
        for (int g : new int[] {1, 2, 16, 31, 33, 64, 96, 127}) {
            dueIllegal(Words.shift(g, 1, 5, 1, 1));
            dueIllegal(Words.shift(g, 5, 5, 1, 1));
        }
        dueIllegal(Words.shift(32, 1, 5, 1, 1));
    }

    private static void op51Plain() {
        Due.sentence("Terms: 51: x[d] is of x[a], x[b], with g 0, by f 0: sum; 2: 1 if less; 3: so U; 4: xor; 6: or; 7: and; g 32, f 0: difference");
        // x[a], x[b], then by f 0, 2, 3, 4, 6, 7 and the difference
        int[][] rows = {{0, 0, 0, 0, 0, 0, 0, 0, 0}, {MIN, MIN, 0, 0, 0, 0, MIN, MIN, 0},
            {MIN, MAX, -1, 1, 0, -1, -1, 0, 1}, {MAX, MIN, -1, 0, 1, -1, -1, 0, -1}, {MAX, MAX, -2, 0, 0, 0, MAX, MAX, 0},
            {-1, 1, 0, 1, 0, -2, -1, 1, -2}, {1, -1, 0, 0, 1, -2, -1, 1, 2}, {MIN, -1, MAX, 1, 1, MAX, -1, MIN, MIN + 1},
            {MAX, 1, MIN, 0, 0, MAX - 1, MAX, 1, MAX - 1}, {MIN, 1, MIN + 1, 1, 0, MIN + 1, MIN + 1, 0, MAX}};
        int[] fs = {0, 2, 3, 4, 6, 7};
        for (int[] r : rows) {
            for (int i = 0; i < fs.length; i++) {
                dueX5(Words.registers(0, fs[i], 5, 1, 2), r[0], r[1], r[i + 2]);
            }
            dueX5(Words.registers(32, 0, 5, 1, 2), r[0], r[1], r[8]);
        }
        for (int f : new int[] {1, 2, 3, 4, 6, 7}) {
            dueIllegal(Words.registers(32, f, 5, 1, 2));
        }
        for (int g : new int[] {2, 3, 16, 31, 33, 64, 96, 127}) {
            for (int f = 0; f < 8; f++) {
                dueIllegal(Words.registers(g, f, 5, 1, 2));
            }
        }
    }

    private static void op51Shifts() {
        Due.sentence("Terms: 51: 1: shifted left by the lowest five bits of x[b]; 5: so right, U; g 32, f 5: so right, with sign");
        // x[a], x[b], then left, right U, right with sign
        int[][] rows = {{-1, 0, -1, -1, -1}, {-1, 31, MIN, 1, -1}, {-1, 32, -1, -1, -1}, {-1, 33, -2, MAX, -1},
            {MIN, 63, 0, 1, -1}, {MIN, 64, MIN, MIN, MIN}, {1, -1, MIN, 0, 0}, {MAX, -32, MAX, MAX, MAX},
            {MIN, MIN, MIN, MIN, MIN}, {MIN, MAX, 0, 1, -1}, {MIN, 1, 0, 1 << 30, -(1 << 30)}, {MAX, 30, -(1 << 30), 1, 1}};
        for (int[] r : rows) {
            dueX5(Words.registers(0, 1, 5, 1, 2), r[0], r[1], r[2]);
            dueX5(Words.registers(0, 5, 5, 1, 2), r[0], r[1], r[3]);
            dueX5(Words.registers(32, 5, 5, 1, 2), r[0], r[1], r[4]);
        }
    }

    private static void op51Products() {
        Due.sentence("Terms: 51: g 1: 0: product; 1: upper 32 bits of the product; 2: of it, x[b] U; 3: of it, both U");
        // x[a], x[b], then by f 0 .. 3
        int[][] rows = {{0, MIN, 0, 0, 0, 0}, {1, -1, -1, -1, 0, 0}, {-1, 1, -1, -1, -1, 0}, {-1, -1, 1, 0, -1, -2},
            {MAX, MAX, 1, 0x3FFFFFFF, 0x3FFFFFFF, 0x3FFFFFFF}, {MIN, MIN, 0, 0x40000000, -0x40000000, 0x40000000},
            {MIN, MAX, MIN, -0x40000000, -0x40000000, 0x3FFFFFFF}, {MAX, MIN, MIN, -0x40000000, 0x3FFFFFFF, 0x3FFFFFFF},
            {MIN, -1, MIN, 0, MIN, MAX}, {-1, MIN, MIN, 0, -1, MAX}, {65536, 65536, 0, 1, 1, 1},
            {65536, 32768, MIN, 0, 0, 0}, {MAX, -1, -MAX, -1, MAX - 1, MAX - 1}, {-1, MAX, -MAX, -1, -1, MAX - 1}};
        dueByF(rows, 0, 3);
    }

    private static void op51Quotients() {
        Due.sentence("Terms: 51: g 1: 4: quotient to 0; 5: U; 6: rest with the sign of x[a]; 7: rest U");
        // x[a], x[b], then by f 4 .. 7
        int[][] rows = {{7, 2, 3, 3, 1, 1}, {-7, 2, -3, 0x7FFFFFFC, -1, 1}, {7, -2, -3, 0, 1, 7}, {-7, -2, 3, 0, -1, -7},
            {1, 2, 0, 0, 1, 1}, {-1, 2, 0, MAX, -1, 1}, {0, -1, 0, 0, 0, 0}, {0, 5, 0, 0, 0, 0}, {MIN, 1, MIN, MIN, 0, 0},
            {MIN, 2, -(1 << 30), 1 << 30, 0, 0}, {MIN, MIN, 1, 1, 0, 0}, {MIN, MAX, -1, 1, -1, 1}, {MAX, MIN, 0, 0, MAX, MAX},
            {MAX, -1, -MAX, 0, 0, MAX}, {-1, -1, 1, 1, 0, 0}, {-1, MIN, 0, 1, -1, MAX}, {-1, MAX, 0, 2, -1, 1},
            {MIN, MIN + 1, 1, 0, -1, MIN}, {MIN + 1, -1, MAX, 0, 0, MIN + 1}};
        dueByF(rows, 4, 7);
    }

    private static void quotientBy0() {
        Due.sentence("Terms: (Quotient by 0: all bits");
        for (int x : new int[] {MIN, -1, 0, 1, MAX}) {
            dueX5(Words.registers(1, 4, 5, 1, 2), x, 0, -1);
            dueX5(Words.registers(1, 5, 5, 1, 2), x, 0, -1);
        }
    }

    private static void restBy0() {
        Due.sentence("Terms: rest by 0: x[a]");
        for (int x : new int[] {MIN, -1, 0, 1, MAX}) {
            dueX5(Words.registers(1, 6, 5, 1, 2), x, 0, x);
            dueX5(Words.registers(1, 7, 5, 1, 2), x, 0, x);
        }
    }

    private static void leastNumberByMinus1() {
        Due.sentence("Terms: the least number by -1: itself, rest 0.)");
        dueX5(Words.registers(1, 4, 5, 1, 2), MIN, -1, MIN);
        dueX5(Words.registers(1, 6, 5, 1, 2), MIN, -1, 0);
        dueX5(Words.registers(1, 5, 5, 1, 2), MIN, -1, 0);
        dueX5(Words.registers(1, 7, 5, 1, 2), MIN, -1, MIN);
    }

    private static void dueByF(int[][] rows, int first, int last) {
        for (int[] r : rows) {
            for (int f = first; f <= last; f++) {
                dueX5(Words.registers(1, f, 5, 1, 2), r[0], r[1], r[2 + f - first]);
            }
        }
    }

    /** What a word with d 5, a 1, b 2 puts to x5, done and reckoned; and to x1, which it reads too. */
    private static void dueX5(int word, int x1, int x2, int want) {
        full().put(1, x1).put(2, x2).done("word " + word + " of " + x1 + ", " + x2, word, Edge.x(5), want);
        Due.due("reckon(" + word + ", " + x1 + ", " + x2 + ")", want, new WordUnit().reckon(word, x1, x2));
        int toX1 = word ^ (5 ^ 1) << 7;
        full().put(1, x1).put(2, x2).done("word " + toX1 + " of " + x1 + ", " + x2, toX1, Edge.x(1), want);
    }

    private static void dueIllegal(int word) {
        full().exception("word " + word, word, 2, word);
        Due.due("reckon(" + word + ", 7, 9)", 0, new WordUnit().reckon(word, 7, 9));
        Due.due("field(" + word + ", 11)", 0, new WordUnit().field(word, 11));
    }

    // ---- exceptions

    private static void twoBytesAtAnOddAddress() {
        Due.sentence("Terms: Loads and stores of two bytes at an odd address .. : exception 4 (load), 6 (store).");
        for (int at : new int[] {1, 3, 5, 4093, 4095}) {
            dueOdd(1, at);
        }
        for (int at : new int[] {0, 2, 4, 4092, 4094}) {
            dueEven(1, at);
        }
    }

    private static void wordNotAtAMultipleOf4() {
        Due.sentence("Terms: Loads and stores .. of words not at a multiple of 4: exception 4 (load), 6 (store).");
        for (int at : new int[] {1, 2, 3, 5, 6, 7, 4089, 4090, 4091, 4093, 4094, 4095}) {
            dueOdd(2, at);
        }
        for (int at : new int[] {0, 4, 4088, 4092}) {
            dueEven(2, at);
        }
        Due.sentence("Terms: Loads and stores: a byte is at no odd address");
        for (int at : new int[] {0, 1, 2, 3, 4092, 4093, 4094, 4095}) {
            dueEven(0, at);
        }
    }

    /** Loads and stores of a size by f (0, 1, 2; with sign or U) where they are exceptions 4 and 6. */
    private static void dueOdd(int f, int at) {
        full().put(1, at).exception("a load at " + at, Words.load(f, 5, 1, 0), 4, at);
        if (f < 2) {
            full().put(1, at).exception("a load U at " + at, Words.load(f + 4, 5, 1, 0), 4, at);
        }
        full().put(1, at).exception("a store at " + at, Words.store(f, 1, 2, 0), 6, at);
    }

    /** Loads and stores of a size by f where they can be done. */
    private static void dueEven(int f, int at) {
        int whole = f == 0 ? 0xFF : f == 1 ? 0xFFFF : -1;
        int below = 8 * (at % 4);
        int loadedU = Edge.fullWord(at) >> below & whole;
        int loaded = f == 0 ? (byte) loadedU : f == 1 ? (short) loadedU : loadedU;
        full().put(1, at).done("a load at " + at, Words.load(f, 5, 1, 0), Edge.x(5), loaded);
        if (f < 2) {
            full().put(1, at).done("a load U at " + at, Words.load(f + 4, 5, 1, 0), Edge.x(5), loadedU);
        }
        int stored = Edge.fullWord(at) & ~(whole << below);
        full().put(1, at).put(2, ~whole).done("a store at " + at, Words.store(f, 1, 2, 0), Edge.word(at), stored);
    }

    private static void byteThatIsNotOfMemory() {
        Due.sentence("Terms: A byte that is not of memory: exception 5 (load), 7 (store)");
        for (int f = 0; f < 3; f++) {
            for (int at : new int[] {-4, -8, 4096, 4100, 8192, -4096, 1 << 14, 1 << 30, MIN, MAX - 3}) {
                dueOutside(f, at, 0);
            }
        }
        for (int at : new int[] {-2, 4098, MAX - 1, MIN + 2}) {
            dueOutside(0, at, 0);
            dueOutside(1, at, 0);
        }
        for (int at : new int[] {-1, 4097, MAX, MIN + 1}) {
            dueOutside(0, at, 0);
        }
        Due.sentence("Terms: addresses that go over the ends of 32 bits: exception 5 (load), 7 (store)");
        dueOutside(0, MAX, 1);
        dueOutside(1, MAX, 1);
        dueOutside(2, MAX, 1);
        dueOutside(0, MIN, -1);
        dueOutside(2, MIN, -4);
        dueOutside(2, MIN, -2048);
        dueOutside(2, MAX - 3, 2044);
        dueOutside(0, -2048, 2047);
        dueOutside(0, 2047, -2048);
        dueOutside(0, 2049, 2047);
        dueOutside(0, 6144, -2048);
    }

    private static void dueOutside(int f, int xa, int number) {
        int at = xa + number;
        full().put(1, xa).exception("a load at " + at, Words.load(f, 5, 1, number), 5, at);
        if (f < 2) {
            full().put(1, xa).exception("a load U at " + at, Words.load(f + 4, 5, 1, number), 5, at);
        }
        full().put(1, xa).exception("a store at " + at, Words.store(f, 1, 2, number), 7, at);
    }

    private static void lookedAtBehindThat() {
        Due.sentence("Terms: (looked at behind that)");
        for (int at : new int[] {-1, -3, 4097, 4099, MAX, MIN + 1}) {
            dueOdd(1, at);
        }
        for (int at : new int[] {-1, -2, -3, 4097, 4098, 4099, MAX, MAX - 1, MAX - 2, MIN + 1, MIN + 2, MIN + 3}) {
            dueOdd(2, at);
        }
        for (int f : new int[] {3, 6, 7}) {
            full().exception("an illegal load", Words.load(f, 5, 0, -1), 2, Words.load(f, 5, 0, -1));
        }
        for (int f = 3; f < 8; f++) {
            full().exception("an illegal store", Words.store(f, 0, 2, -1), 2, Words.store(f, 0, 2, -1));
        }
    }

    private static void noWordAtThePc() {
        Due.sentence("Terms: a word at the PC that is not: exception 1");
        for (int pc : new int[] {-4, -8, 4096, 4100, 8192, -4096, 1 << 14, 1 << 30, MIN, MAX - 3}) {
            Edge.at(pc).due("a step at " + pc, 1, x -> x.step(), Edge.EXCEPTION, 1, Edge.VALUE, pc);
            Edge.at(pc).due("run(2000) at " + pc, 0, x -> x.run(2000), Edge.EXCEPTION, 1, Edge.VALUE, pc);
        }
        for (int pc : new int[] {0, 4092}) {
            Edge.at(pc).done("a step at " + pc, Words.NOTHING);
        }
    }

    private static void pcGoesOnBy4() {
        Due.sentence("Terms: then the PC goes on by 4, if nothing else is said");
        int[] words = {Words.withH(55, 0, 0), Words.withH(23, 0, 0), Words.branch(1, 0, 0, 8), Words.branch(4, 0, 0, 8),
            Words.branch(6, 0, 0, 8), Words.load(2, 0, 0, 8), Words.withI(15, 0, 0, 0, 0), Words.withI(15, 1, 0, 0, 0),
            Words.NOTHING, Words.registers(0, 0, 0, 1, 2), Words.registers(32, 0, 0, 1, 2), Words.registers(1, 4, 0, 1, 0)};
        for (int word : words) {
            Edge.at(0).done("word " + word, word, PC, 4);
            Edge.at(4092).done("word " + word, word, PC, 4096);
            Edge.at(4096).done("word " + word, word, PC, 4100);
            Edge.at(-4).done("word " + word, word, PC, 0);
            Edge.at(MAX - 3).done("word " + word, word, PC, MIN);
            Edge.at(MIN).done("word " + word, word, PC, MIN + 4);
        }
        for (int pc : new int[] {0, 4092, -4, MAX - 3}) {
            Edge.at(pc).done("a store", Words.store(2, 0, 0, 8), Edge.word(8), 0);
        }
    }

    private static void nothingChangesAtAnException() {
        Due.sentence("Terms: At an exception nothing changes.");
        for (int pc : PCS) {
            Edge edge = Edge.at(pc).put(1, 4093).put(2, 4096);
            edge.exception("0 of 111", Words.jump(5, 6), 0, pc + 6);
            edge.exception("0 of 103", Words.jumpRegister(1, 1, 2), 0, 4094);
            edge.exception("0 of 99", Words.branch(1, 1, 2, 6), 0, pc + 6);
            edge.exception("2", 0, 2, 0);
            edge.exception("4", Words.load(2, 1, 1, 0), 4, 4093);
            edge.exception("5", Words.load(2, 2, 2, 0), 5, 4096);
            edge.exception("6", Words.store(1, 1, 5, 0), 6, 4093);
            edge.exception("7", Words.store(1, 2, 5, 0), 7, 4096);
            edge.exception("100", Words.SYSTEM | 5 << 7, 100, Words.SYSTEM | 5 << 7);
        }
    }

    private static void valueOfAnException() {
        Due.sentence("Terms: Its VALUE: of 0 the place to go on at, of 2 and 100 the word, of others the address.");
        full().put(1, 7).exception("0, bit 0 being cleared", Words.jumpRegister(5, 1, 0), 0, 6);
        full().exception("0", Words.jump(5, -6), 0, 1994);
        for (int word : new int[] {0, -1, 127 << 25 | 51, 1 << 25 | 1 << 12 | 19}) {
            full().exception("2", word, 2, word);
        }
        full().exception("100", MIN | 115, 100, MIN | 115);
        full().put(1, 4000).exception("4, x[a] + I", Words.load(1, 5, 1, 95), 4, 4095);
        full().put(1, 4000).exception("5, x[a] + I", Words.load(1, 5, 1, 96), 5, 4096);
        full().put(1, 4000).exception("6, x[a] + T", Words.store(1, 1, 2, 95), 6, 4095);
        full().put(1, 4000).exception("7, x[a] + T", Words.store(1, 1, 2, 96), 7, 4096);
        Edge.at(4096).due("1, the PC", 1, x -> x.step(), Edge.EXCEPTION, 1, Edge.VALUE, 4096);
        Edge.at(-4).due("1, the PC", 1, x -> x.step(), Edge.EXCEPTION, 1, Edge.VALUE, -4);
    }

    private static Edge full() {
        return Edge.at(2000);
    }
}
