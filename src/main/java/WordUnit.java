/**
 * A unit that does the instructions of a small machine for whole numbers, word by word.
 * What it must do stands in DOC.md as numbered promises; README.md shows its use.
 */
public final class WordUnit {
    public static final int BAD = -1, DONE = -1;

    private static final int REGISTERS = 32;
    private static final int MEMORY_BYTES = 4096;
    private static final int MEMORY_WORDS = MEMORY_BYTES / 4;
    private static final int POKED_BYTES = 20;
    private static final int MOST_STEPS = 2000;

    private static final int OP_UPPER = 55;
    private static final int OP_UPPER_PC = 23;
    private static final int OP_JUMP = 111;
    private static final int OP_JUMP_REGISTER = 103;
    private static final int OP_BRANCH = 99;
    private static final int OP_LOAD = 3;
    private static final int OP_STORE = 35;
    private static final int OP_NOTHING = 15;
    private static final int OP_NUMBER = 19;
    private static final int OP_REGISTERS = 51;
    private static final int OP_SYSTEM = 115;

    private static final int G_PLAIN = 0;
    private static final int G_PRODUCT = 1;
    private static final int G_OTHER = 32;

    private static final int EXCEPTION_PLACE = 0;
    private static final int EXCEPTION_NO_WORD = 1;
    private static final int EXCEPTION_ILLEGAL = 2;
    private static final int EXCEPTION_LOAD_ODD = 4;
    private static final int EXCEPTION_LOAD_OUTSIDE = 5;
    private static final int EXCEPTION_STORE_ODD = 6;
    private static final int EXCEPTION_STORE_OUTSIDE = 7;
    private static final int EXCEPTION_SYSTEM = 100;

    private static final long WITHOUT_SIGN = 0xFFFFFFFFL;
    private static final int HIGHEST_BIT = 1 << 31;

    // Whole words, not bytes: a quarter of the elements in the room that all objects share.
    private final int[] memory;
    private final int[] registers;
    private int pc;
    private int lastException;
    private int lastValue;
    private int doneInAll;

    public WordUnit() {
        memory = new int[MEMORY_WORDS];
        registers = new int[REGISTERS];
        pc = 0;
        lastException = DONE;
        lastValue = 0;
        doneInAll = 0;
    }

    public int poke(int address, int a, int b, int c, int d, int e) {
        if (!isMultipleOf4(address) || address < 0 || address > MEMORY_BYTES - POKED_BYTES) {
            return BAD;
        }
        setWordAt(address, a);
        setWordAt(address + 4, b);
        setWordAt(address + 8, c);
        setWordAt(address + 12, d);
        setWordAt(address + 16, e);
        return 0;
    }

    public int word(int address) {
        return isMultipleOf4(address) ? wordAround(address) : 0;
    }

    public int put(int n, int v) {
        int old = register(n);
        setRegister(n, v);
        return old;
    }

    public int get(int n) {
        return register(n);
    }

    public int go(int pc) {
        if (!isMultipleOf4(pc)) {
            return BAD;
        }
        this.pc = pc;
        return 0;
    }

    public int step() {
        return doStep();
    }

    public int run(int n) {
        if (n < 0 || n > MOST_STEPS) {
            return BAD;
        }
        for (int done = 0; done < n; done++) {
            if (doStep() != DONE) {
                return done;
            }
        }
        return n;
    }

    public int doWord(int word) {
        return perform(word);
    }

    public int told(int which) {
        switch (which) {
            case 0: return pc;
            case 1: return lastException;
            case 2: return lastValue;
            case 3: return doneInAll;
            default: return BAD;
        }
    }

    public int field(int word, int which) {
        switch (which) {
            case 0: return fieldOp(word);
            case 1: return fieldD(word);
            case 2: return fieldF(word);
            case 3: return fieldA(word);
            case 4: return fieldB(word);
            case 5: return fieldG(word);
            case 6: return numberI(word);
            case 7: return numberT(word);
            case 8: return numberB(word);
            case 9: return numberH(word);
            case 10: return numberJ(word);
            case 11: return isNamed(word) ? 1 : 0;
            default: return 0;
        }
    }

    public int reckon(int word, int x, int y) {
        return isNamed(word) ? result(word, x, y, 0) : 0;
    }

    // ---- a step and a word

    private int doStep() {
        if (!isOfMemory(pc)) {
            return tell(EXCEPTION_NO_WORD, pc);
        }
        return perform(wordAround(pc));
    }

    private int perform(int word) {
        if (!isNamed(word)) {
            return tell(EXCEPTION_ILLEGAL, word);
        }
        switch (fieldOp(word)) {
            case OP_SYSTEM: return tell(EXCEPTION_SYSTEM, word);
            case OP_JUMP: return jump(word, pc + numberJ(word));
            case OP_JUMP_REGISTER: return jump(word, (register(fieldA(word)) + numberI(word)) & ~1);
            case OP_BRANCH: return branch(word);
            case OP_LOAD: return load(word);
            case OP_STORE: return store(word);
            case OP_NOTHING: return finish(pc + 4);
            default:
                setRegister(fieldD(word), result(word, register(fieldA(word)), register(fieldB(word)), pc));
                return finish(pc + 4);
        }
    }

    private int finish(int next) {
        pc = next;
        lastException = DONE;
        lastValue = 0;
        doneInAll++;
        return DONE;
    }

    private int tell(int exception, int value) {
        lastException = exception;
        lastValue = value;
        return exception;
    }

    private int jump(int word, int place) {
        if (!isMultipleOf4(place)) {
            return tell(EXCEPTION_PLACE, place);
        }
        setRegister(fieldD(word), pc + 4);
        return finish(place);
    }

    private int branch(int word) {
        if (!isTaken(fieldF(word), register(fieldA(word)), register(fieldB(word)))) {
            return finish(pc + 4);
        }
        int place = pc + numberB(word);
        return isMultipleOf4(place) ? finish(place) : tell(EXCEPTION_PLACE, place);
    }

    private static boolean isTaken(int f, int x, int y) {
        switch (f) {
            case 0: return x == y;
            case 1: return x != y;
            case 4: return x < y;
            case 5: return x >= y;
            case 6: return isLessU(x, y);
            default: return !isLessU(x, y);
        }
    }

    private int load(int word) {
        int address = register(fieldA(word)) + numberI(word);
        if (!isAligned(address, fieldF(word))) {
            return tell(EXCEPTION_LOAD_ODD, address);
        }
        if (!isOfMemory(address)) {
            return tell(EXCEPTION_LOAD_OUTSIDE, address);
        }
        setRegister(fieldD(word), loaded(fieldF(word), wordAround(address) >>> bitsBelow(address)));
        return finish(pc + 4);
    }

    private static int loaded(int f, int bits) {
        switch (f) {
            case 0: return (byte) bits;
            case 1: return (short) bits;
            case 4: return bits & 0xFF;
            case 5: return bits & 0xFFFF;
            default: return bits;
        }
    }

    private int store(int word) {
        int address = register(fieldA(word)) + numberT(word);
        if (!isAligned(address, fieldF(word))) {
            return tell(EXCEPTION_STORE_ODD, address);
        }
        if (!isOfMemory(address)) {
            return tell(EXCEPTION_STORE_OUTSIDE, address);
        }
        int mask = storedMask(fieldF(word)) << bitsBelow(address);
        int bits = register(fieldB(word)) << bitsBelow(address);
        setWordAt(address, (wordAround(address) & ~mask) | (bits & mask));
        return finish(pc + 4);
    }

    private static int storedMask(int f) {
        switch (f) {
            case 0: return 0xFF;
            case 1: return 0xFFFF;
            default: return -1;
        }
    }

    // ---- registers and memory

    private int register(int n) {
        return n >= 0 && n < REGISTERS ? registers[n] : 0;
    }

    private void setRegister(int n, int v) {
        if (n > 0 && n < REGISTERS) {
            registers[n] = v;
        }
    }

    private static boolean isMultipleOf4(int number) {
        return (number & 3) == 0;
    }

    private static boolean isOfMemory(int address) {
        return address >= 0 && address < MEMORY_BYTES;
    }

    /** The lower two bits of f tell the size: 0 a byte, 1 two bytes, 2 a word. */
    private static boolean isAligned(int address, int f) {
        int size = 1 << (f & 3);
        return (address & (size - 1)) == 0;
    }

    private static int bitsBelow(int address) {
        return 8 * (address & 3);
    }

    /** The whole word that the byte at an address is part of. */
    private int wordAround(int address) {
        return isOfMemory(address) ? memory[address >>> 2] : 0;
    }

    private void setWordAt(int address, int word) {
        if (isOfMemory(address)) {
            memory[address >>> 2] = word;
        }
    }

    // ---- fields of a word

    private static int fieldOp(int word) {
        return word & 127;
    }

    private static int fieldD(int word) {
        return (word >>> 7) & 31;
    }

    private static int fieldF(int word) {
        return (word >>> 12) & 7;
    }

    private static int fieldA(int word) {
        return (word >>> 15) & 31;
    }

    private static int fieldB(int word) {
        return (word >>> 20) & 31;
    }

    private static int fieldG(int word) {
        return word >>> 25;
    }

    private static int numberI(int word) {
        return word >> 20;
    }

    private static int numberT(int word) {
        return ((word >> 25) << 5) | fieldD(word);
    }

    private static int numberB(int word) {
        int bit11 = (word >>> 7) & 1;
        int bits10To5 = (word >>> 25) & 63;
        int bits4To1 = (word >>> 8) & 15;
        return ((word >> 31) << 12) | (bit11 << 11) | (bits10To5 << 5) | (bits4To1 << 1);
    }

    private static int numberH(int word) {
        return word & ~0xFFF;
    }

    private static int numberJ(int word) {
        int bits19To12 = (word >>> 12) & 255;
        int bit11 = (word >>> 20) & 1;
        int bits10To1 = (word >>> 21) & 1023;
        return ((word >> 31) << 20) | (bits19To12 << 12) | (bit11 << 11) | (bits10To1 << 1);
    }

    private static boolean isNamed(int word) {
        int f = fieldF(word);
        switch (fieldOp(word)) {
            case OP_UPPER:
            case OP_UPPER_PC:
            case OP_JUMP:
            case OP_SYSTEM: return true;
            case OP_JUMP_REGISTER: return f == 0;
            case OP_BRANCH: return f != 2 && f != 3;
            case OP_LOAD: return f <= 2 || f == 4 || f == 5;
            case OP_STORE: return f <= 2;
            case OP_NOTHING: return f <= 1;
            case OP_NUMBER: return isNamedWithNumber(f, fieldG(word));
            case OP_REGISTERS: return isNamedWithRegisters(f, fieldG(word));
            default: return false;
        }
    }

    private static boolean isNamedWithNumber(int f, int g) {
        switch (f) {
            case 1: return g == G_PLAIN;
            case 5: return g == G_PLAIN || g == G_OTHER;
            default: return true;
        }
    }

    private static boolean isNamedWithRegisters(int f, int g) {
        switch (g) {
            case G_PLAIN:
            case G_PRODUCT: return true;
            case G_OTHER: return f == 0 || f == 5;
            default: return false;
        }
    }

    // ---- arithmetic

    /** What a named word of op 19, 51, 23 or 55 puts to x[d]; 0 of every other word. */
    private static int result(int word, int x, int y, int pc) {
        switch (fieldOp(word)) {
            case OP_UPPER: return numberH(word);
            case OP_UPPER_PC: return pc + numberH(word);
            case OP_NUMBER: return resultWithNumber(word, x);
            case OP_REGISTERS: return resultWithRegisters(word, x, y);
            default: return 0;
        }
    }

    private static int resultWithNumber(int word, int x) {
        // A shift looks at the lowest five bits alone, and those of I are the field b.
        int number = numberI(word);
        boolean keepsSign = fieldF(word) == 5 && fieldG(word) == G_OTHER;
        return keepsSign ? x >> (number & 31) : plain(fieldF(word), x, number);
    }

    private static int resultWithRegisters(int word, int x, int y) {
        switch (fieldG(word)) {
            case G_PRODUCT: return productOrQuotient(fieldF(word), x, y);
            case G_OTHER: return fieldF(word) == 0 ? x - y : x >> (y & 31);
            default: return plain(fieldF(word), x, y);
        }
    }

    private static int plain(int f, int x, int y) {
        switch (f) {
            case 0: return x + y;
            case 1: return x << (y & 31);
            case 2: return x < y ? 1 : 0;
            case 3: return isLessU(x, y) ? 1 : 0;
            case 4: return x ^ y;
            case 5: return x >>> (y & 31);
            case 6: return x | y;
            default: return x & y;
        }
    }

    private static int productOrQuotient(int f, int x, int y) {
        switch (f) {
            case 0: return x * y;
            case 1: return upper((long) x * (long) y);
            case 2: return upper((long) x * unsigned(y));
            case 3: return upper(unsigned(x) * unsigned(y));
            case 4: return (int) quotient(x, y);
            case 5: return (int) quotient(unsigned(x), unsigned(y));
            case 6: return (int) rest(x, y);
            default: return (int) rest(unsigned(x), unsigned(y));
        }
    }

    private static int upper(long product) {
        return (int) (product >>> 32);
    }

    // In long arithmetic the least number by -1 is a number like any other, and wraps when cast.
    private static long quotient(long x, long y) {
        return y == 0 ? -1 : x / y;
    }

    private static long rest(long x, long y) {
        return y == 0 ? x : x % y;
    }

    private static long unsigned(int number) {
        return number & WITHOUT_SIGN;
    }

    // Turning the highest bit of both puts the order without sign in place of that with sign.
    private static boolean isLessU(int x, int y) {
        return (x ^ HIGHEST_BIT) < (y ^ HIGHEST_BIT);
    }
}
