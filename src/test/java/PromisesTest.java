/** Promises 1 to 12: ordinary inputs, the edges that the document names, and wrong inputs. */
public final class PromisesTest {
    private static final int MIN = Integer.MIN_VALUE, MAX = Integer.MAX_VALUE;
    private static final int DONE = WordUnit.DONE, BAD = WordUnit.BAD;
    private static final int ILLEGAL_WORD = 0;

    public static void main(String[] args) {
        promise1NewObject();
        promise2Poke();
        promise3Word();
        promise4Put();
        promise5Get();
        promise6Go();
        promise7Step();
        promise7StepChangesNothingAtAnException();
        promise8Run();
        promise9DoWord();
        promise9Jumps();
        promise9Branches();
        promise9Loads();
        promise9Stores();
        promise9WordsThatPutToARegister();
        promise10Told();
        promise11Field();
        promise11Named();
        promise12Reckon();
        promise12ReckonProductsAndQuotients();
        Due.end();
    }

    private static void promise1NewObject() {
        WordUnit x = new WordUnit();
        for (int n = 0; n < 32; n++) {
            Due.due("1: get(" + n + ")", 0, x.get(n));
        }
        for (int address = 0; address < 4096; address += 36) {
            Due.due("1: word(" + address + ")", 0, x.word(address));
        }
        Due.due("1: word(4092)", 0, x.word(4092));
        dueTold("1", x, 0, DONE, 0, 0);
        WordUnit other = new WordUnit();
        x.poke(0, 1, 2, 3, 4, 5);
        x.put(5, 6);
        Due.due("1: another object's memory", 0, other.word(0));
        Due.due("1: another object's register", 0, other.get(5));
    }

    private static void promise2Poke() {
        WordUnit x = new WordUnit();
        Due.due("2: poke(8, ..)", 0, x.poke(8, 1, -2, MIN, MAX, 5));
        int[] want = {0, 0, 1, -2, MIN, MAX, 5, 0};
        for (int i = 0; i < want.length; i++) {
            Due.due("2: word(" + 4 * i + ")", want[i], x.word(4 * i));
        }
        Due.due("2: the last place", 0, x.poke(4076, 11, 12, 13, 14, 15));
        Due.due("2: its first word", 11, x.word(4076));
        Due.due("2: its last word", 15, x.word(4092));
        int[] wrong = {1, 2, 3, 4075, 4077, 4078, 4080, 4092, 4096, -4, -16, -20, -1, MIN, MAX, MAX - 3, MIN + 4};
        for (int address : wrong) {
            Due.due("2: poke(" + address + ", ..)", BAD, x.poke(address, 9, 9, 9, 9, 9));
        }
        Due.due("2: nothing came at 0", 0, x.word(0));
        Due.due("2: nothing came at 4080", 12, x.word(4080));
        Due.due("2: nothing came at 4092", 15, x.word(4092));
        x.poke(0, 0x04030201, 0, 0, 0, 0);
        for (int i = 0; i < 4; i++) {
            x.doWord(Words.load(0, 1, 0, i));
            Due.due("2: the lowest byte is first, " + i, i + 1, x.get(1));
        }
    }

    private static void promise3Word() {
        WordUnit x = new WordUnit();
        x.poke(0, -1, -2, -3, -4, -5);
        x.poke(4076, -6, -7, -8, -9, -10);
        Due.due("3: word(0)", -1, x.word(0));
        Due.due("3: word(16)", -5, x.word(16));
        Due.due("3: word(4092)", -10, x.word(4092));
        for (int address : new int[] {1, 2, 3, 5, 4093, 4094, 4095, 4096, 8192, -1, -4, -4096, MIN, MAX, MAX - 3}) {
            Due.due("3: word(" + address + ")", 0, x.word(address));
        }
    }

    private static void promise4Put() {
        WordUnit x = new WordUnit();
        for (int n = 1; n < 32; n++) {
            Due.due("4: first put(" + n + ")", 0, x.put(n, 100 - n));
        }
        for (int n = 1; n < 32; n++) {
            Due.due("4: second put(" + n + ")", 100 - n, x.put(n, MIN + n));
            Due.due("4: get(" + n + ")", MIN + n, x.get(n));
        }
        Due.due("4: put(0)", 0, x.put(0, 7));
        Due.due("4: put(0) again", 0, x.put(0, 8));
        Due.due("4: x0 stays", 0, x.get(0));
        for (int n : new int[] {-1, 32, 33, 63, 64, MIN, MAX}) {
            Due.due("4: put(" + n + ")", 0, x.put(n, 5));
            Due.due("4: put(" + n + ") again", 0, x.put(n, 6));
        }
        for (int n = 1; n < 32; n++) {
            Due.due("4: x" + n + " is not changed", MIN + n, x.get(n));
        }
    }

    private static void promise5Get() {
        WordUnit x = new WordUnit();
        for (int n = 0; n < 32; n++) {
            x.put(n, n + 1);
        }
        Due.due("5: get(0)", 0, x.get(0));
        Due.due("5: get(1)", 2, x.get(1));
        Due.due("5: get(31)", 32, x.get(31));
        for (int n : new int[] {-1, -31, 32, 33, 64, MIN, MAX}) {
            Due.due("5: get(" + n + ")", 0, x.get(n));
        }
    }

    private static void promise6Go() {
        WordUnit x = new WordUnit();
        for (int pc : new int[] {4, 4092, 4096, -4, MIN, MAX - 3, 0}) {
            Due.due("6: go(" + pc + ")", 0, x.go(pc));
            Due.due("6: the PC after it", pc, x.told(0));
        }
        x.go(40);
        for (int pc : new int[] {1, 2, 3, -1, -2, -3, MAX, MIN + 1, MIN + 2}) {
            Due.due("6: go(" + pc + ")", BAD, x.go(pc));
            Due.due("6: the PC stays", 40, x.told(0));
        }
        dueTold("6: go is no step", x, 40, DONE, 0, 0);
    }

    private static void promise7Step() {
        WordUnit x = new WordUnit();
        x.poke(0, Words.add(1, 0, 5), Words.jump(2, 8), Words.SYSTEM, Words.add(1, 1, 1), ILLEGAL_WORD);
        Due.due("7: step", DONE, x.step());
        dueTold("7", x, 4, DONE, 0, 1);
        Due.due("7: x1", 5, x.get(1));
        Due.due("7: jump", DONE, x.step());
        dueTold("7", x, 12, DONE, 0, 2);
        Due.due("7: x2", 8, x.get(2));
        Due.due("7: step behind the jump", DONE, x.step());
        Due.due("7: x1", 6, x.get(1));
        Due.due("7: illegal", 2, x.step());
        dueTold("7", x, 16, 2, ILLEGAL_WORD, 3);
        x.go(8);
        Due.due("7: system", 100, x.step());
        dueTold("7", x, 8, 100, Words.SYSTEM, 3);
        for (int pc : new int[] {4096, 4100, -4, MIN, MAX - 3}) {
            x.go(pc);
            Due.due("7: step at " + pc, 1, x.step());
            dueTold("7: step at " + pc, x, pc, 1, pc, 3);
        }
        x.poke(4076, 0, 0, 0, 0, Words.NOTHING);
        x.go(4092);
        Due.due("7: step at 4092", DONE, x.step());
        dueTold("7", x, 4096, DONE, 0, 4);
        stepDoesWhatWasStored();
    }

    private static void stepDoesWhatWasStored() {
        WordUnit x = new WordUnit();
        x.put(1, Words.add(3, 0, 77));
        x.poke(0, Words.store(2, 0, 1, 4), 0, 0, 0, 0);
        Due.due("7: a store", DONE, x.step());
        Due.due("7: the stored word", DONE, x.step());
        Due.due("7: x3", 77, x.get(3));
    }

    private static void promise7StepChangesNothingAtAnException() {
        int[] words = {ILLEGAL_WORD, Words.SYSTEM, Words.jump(5, 6), Words.jumpRegister(5, 6, 2),
            Words.branch(0, 0, 0, 2), Words.load(2, 5, 0, 2), Words.load(2, 5, 0, -4),
            Words.store(1, 0, 6, 1), Words.store(0, 0, 6, -1)};
        int[] exceptions = {2, 100, 0, 0, 0, 4, 5, 6, 7};
        int[] values = {ILLEGAL_WORD, Words.SYSTEM, 46, 66, 42, 2, -4, 1, -1};
        for (int i = 0; i < words.length; i++) {
            WordUnit x = new WordUnit();
            x.put(5, 55);
            x.put(6, 64);
            x.poke(0, -1, -1, -1, -1, -1);
            x.poke(40, words[i], 0, 0, 0, 0);
            x.go(40);
            Due.due("7: exception " + i, exceptions[i], x.step());
            dueTold("7: exception " + i, x, 40, exceptions[i], values[i], 0);
            Due.due("7: x5 at exception " + i, 55, x.get(5));
            Due.due("7: x6 at exception " + i, 64, x.get(6));
            Due.due("7: word 0 at exception " + i, -1, x.word(0));
            Due.due("7: word 4092 at exception " + i, 0, x.word(4092));
            Due.due("7: again " + i, exceptions[i], x.step());
        }
    }

    private static void promise8Run() {
        WordUnit x = new WordUnit();
        x.poke(0, Words.add(1, 1, 1), Words.jump(0, -4), 0, 0, 0);
        for (int n : new int[] {-1, 2001, MIN, MAX}) {
            Due.due("8: run(" + n + ")", BAD, x.run(n));
        }
        dueTold("8: BAD runs do nothing", x, 0, DONE, 0, 0);
        Due.due("8: run(0)", 0, x.run(0));
        Due.due("8: run(1)", 1, x.run(1));
        dueTold("8", x, 4, DONE, 0, 1);
        Due.due("8: run(2000)", 2000, x.run(2000));
        Due.due("8: x1", 1001, x.get(1));
        dueTold("8", x, 4, DONE, 0, 2001);
        Due.due("8: run(1999)", 1999, x.run(1999));
        runStopsAtAnException();
    }

    private static void runStopsAtAnException() {
        WordUnit x = new WordUnit();
        x.poke(0, Words.NOTHING, Words.NOTHING, Words.NOTHING, Words.SYSTEM, Words.NOTHING);
        Due.due("8: run(2)", 2, x.run(2));
        Due.due("8: run(5) stops", 1, x.run(5));
        dueTold("8: stopped", x, 12, 100, Words.SYSTEM, 3);
        Due.due("8: run(0) leaves what is told", 0, x.run(0));
        Due.due("8: run(2001) leaves what is told", BAD, x.run(2001));
        dueTold("8: stopped", x, 12, 100, Words.SYSTEM, 3);
        Due.due("8: run(5) at the exception", 0, x.run(5));
        x.go(4088);
        x.poke(4076, 0, 0, 0, Words.NOTHING, Words.NOTHING);
        Due.due("8: run out of memory", 2, x.run(2000));
        dueTold("8: out of memory", x, 4096, 1, 4096, 5);
    }

    private static void promise9DoWord() {
        WordUnit x = new WordUnit();
        Due.due("9: a sum", DONE, x.doWord(Words.add(1, 0, -5)));
        Due.due("9: x1", -5, x.get(1));
        dueTold("9", x, 4, DONE, 0, 1);
        Due.due("9: memory is not touched", 0, x.word(0));
        Due.due("9: illegal", 2, x.doWord(-1));
        dueTold("9", x, 4, 2, -1, 1);
        Due.due("9: system", 100, x.doWord(-1 << 7 | 115));
        dueTold("9", x, 4, 100, -1 << 7 | 115, 1);
        Due.due("9: 15, f 0", DONE, x.doWord(Words.withI(15, 0, 1, 1, 9)));
        Due.due("9: 15, f 1", DONE, x.doWord(Words.withI(15, 1, 1, 1, 9)));
        Due.due("9: 15 does nothing", -5, x.get(1));
        dueTold("9", x, 12, DONE, 0, 3);
        Due.due("9: 15, f 2", 2, x.doWord(Words.withI(15, 2, 0, 0, 0)));
        x.go(-4);
        Due.due("9: a PC that is not of memory", DONE, x.doWord(Words.withH(23, 2, 0x1000)));
        Due.due("9: x2", 0xFFC, x.get(2));
        dueTold("9: the PC wraps", x, 0, DONE, 0, 4);
        Due.due("9: x0 is put to", DONE, x.doWord(Words.add(0, 0, 1)));
        Due.due("9: x0 stays", 0, x.get(0));
    }

    private static void promise9Jumps() {
        WordUnit x = at(100);
        Due.due("9: 111 forth", DONE, x.doWord(Words.jump(1, 0xFFFFC)));
        dueTold("9: 111", x, 100 + 0xFFFFC, DONE, 0, 1);
        Due.due("9: 111, x1", 104, x.get(1));
        x.go(100);
        Due.due("9: 111 back", DONE, x.doWord(Words.jump(0, -0x100000)));
        dueTold("9: 111 back", x, 100 - 0x100000, DONE, 0, 2);
        x.go(100);
        Due.due("9: 111 to 102", 0, x.doWord(Words.jump(1, 2)));
        dueTold("9: 111 to 102", x, 100, 0, 102, 2);
        Due.due("9: x1 stays", 104, x.get(1));

        x.put(3, 201);
        Due.due("9: 103 by the old x[a]", DONE, x.doWord(Words.jumpRegister(3, 3, 0)));
        dueTold("9: 103", x, 200, DONE, 0, 3);
        Due.due("9: 103, x3", 104, x.get(3));
        x.put(3, 203);
        Due.due("9: 103 to 202", 0, x.doWord(Words.jumpRegister(3, 3, 0)));
        dueTold("9: 103 to 202", x, 200, 0, 202, 3);
        Due.due("9: x3 stays", 203, x.get(3));
        Due.due("9: 103 with I", DONE, x.doWord(Words.jumpRegister(0, 3, -2046)));
        dueTold("9: 103 with I", x, -1844, DONE, 0, 4);
        for (int f = 1; f < 8; f++) {
            Due.due("9: 103, f " + f, 2, x.doWord(Words.withI(103, f, 1, 0, 2)));
        }
        x.go(MAX - 3);
        Due.due("9: 111 wraps", DONE, x.doWord(Words.jump(4, 8)));
        Due.due("9: wrapped PC", MIN + 4, x.told(0));
        Due.due("9: wrapped x4", MIN, x.get(4));
    }

    private static void promise9Branches() {
        int[][] pairs = {{1, 1}, {1, 2}, {2, 1}, {-1, 1}, {1, -1}, {MIN, MAX}, {MAX, MIN}, {MIN, MIN}, {0, MIN}};
        for (int[] p : pairs) {
            boolean less = p[0] < p[1];
            boolean lessU = Long.parseLong(Integer.toUnsignedString(p[0])) < Long.parseLong(Integer.toUnsignedString(p[1]));
            dueBranch(0, p, p[0] == p[1]);
            dueBranch(1, p, p[0] != p[1]);
            dueBranch(4, p, less);
            dueBranch(5, p, !less);
            dueBranch(6, p, lessU);
            dueBranch(7, p, !lessU);
        }
        for (int f = 2; f < 4; f++) {
            WordUnit x = at(100);
            Due.due("9: 99, f " + f, 2, x.doWord(Words.branch(f, 0, 0, 2)));
            dueTold("9: 99, f " + f, x, 100, 2, Words.branch(f, 0, 0, 2), 0);
        }
    }

    private static void dueBranch(int f, int[] pair, boolean taken) {
        String what = "9: branch f " + f + " of " + pair[0] + ", " + pair[1];
        for (int by : new int[] {8, -8, 4092, -4096, 2, -4094}) {
            WordUnit x = at(100);
            x.put(1, pair[0]);
            x.put(2, pair[1]);
            boolean odd = taken && by % 4 != 0;
            int next = odd ? 100 : taken ? 100 + by : 104;
            Due.due(what + " by " + by, odd ? 0 : DONE, x.doWord(Words.branch(f, 1, 2, by)));
            dueTold(what + " by " + by, x, next, odd ? 0 : DONE, odd ? 100 + by : 0, odd ? 0 : 1);
        }
    }

    private static void promise9Loads() {
        WordUnit x = new WordUnit();
        x.poke(4076, 0, 0, 0, 0, 0x89ABCDEF);
        x.put(1, 4092);
        dueLoad(x, 0, 0, DONE, 0xFFFFFFEF);
        dueLoad(x, 0, 1, DONE, 0xFFFFFFCD);
        dueLoad(x, 0, 3, DONE, 0xFFFFFF89);
        dueLoad(x, 4, 0, DONE, 0xEF);
        dueLoad(x, 4, 2, DONE, 0xAB);
        dueLoad(x, 4, 3, DONE, 0x89);
        dueLoad(x, 1, 0, DONE, 0xFFFFCDEF);
        dueLoad(x, 1, 2, DONE, 0xFFFF89AB);
        dueLoad(x, 5, 0, DONE, 0xCDEF);
        dueLoad(x, 5, 2, DONE, 0x89AB);
        dueLoad(x, 2, 0, DONE, 0x89ABCDEF);
        for (int f : new int[] {1, 5}) {
            dueLoad(x, f, 1, 4, 4093);
            dueLoad(x, f, 3, 4, 4095);
            dueLoad(x, f, 5, 4, 4097);
            dueLoad(x, f, 4, 5, 4096);
        }
        for (int i : new int[] {1, 2, 3, 5, 6, 7}) {
            dueLoad(x, 2, i, 4, 4092 + i);
        }
        for (int f : new int[] {0, 1, 2, 4, 5}) {
            dueLoad(x, f, 4, 5, 4096);
        }
        for (int f : new int[] {3, 6, 7}) {
            dueLoad(x, f, 1, 2, Words.load(f, 2, 1, 1));
        }
        x.put(1, 0);
        dueLoad(x, 0, -1, 5, -1);
        dueLoad(x, 2, -2, 4, -2);
        dueLoad(x, 2, -4, 5, -4);
        x.put(1, MIN);
        dueLoad(x, 2, -4, 5, MAX - 3);
        Due.due("9: a load to x0 is looked at too", 5, x.doWord(Words.load(2, 0, 1, 0)));
        x.put(1, -4);
        dueLoad(x, 2, 4, DONE, 0);
        x.put(1, 4092);
        Due.due("9: a load to x0", DONE, x.doWord(Words.load(2, 0, 1, 0)));
        Due.due("9: x0 stays", 0, x.get(0));
        Due.due("9: a load to its own x[a]", DONE, x.doWord(Words.load(2, 1, 1, 0)));
        Due.due("9: x1", 0x89ABCDEF, x.get(1));
    }

    /** With DONE, wanted is what x2 becomes; with an exception, its value. */
    private static void dueLoad(WordUnit x, int f, int i, int answer, int wanted) {
        String what = "9: load f " + f + " at x1 + " + i;
        x.put(2, 12345);
        int pc = x.told(0);
        Due.due(what, answer, x.doWord(Words.load(f, 2, 1, i)));
        boolean done = answer == DONE;
        Due.due(what + ", x2", done ? wanted : 12345, x.get(2));
        Due.due(what + ", value", done ? 0 : wanted, x.told(2));
        Due.due(what + ", PC", done ? pc + 4 : pc, x.told(0));
    }

    private static void promise9Stores() {
        dueStore(0, 4092, 0, DONE, 0x111111EF);
        dueStore(0, 4092, 1, DONE, 0x1111EF11);
        dueStore(0, 4092, 2, DONE, 0x11EF1111);
        dueStore(0, 4092, 3, DONE, 0xEF111111);
        dueStore(1, 4092, 0, DONE, 0x1111CDEF);
        dueStore(1, 4092, 2, DONE, 0xCDEF1111);
        dueStore(2, 4092, 0, DONE, 0x89ABCDEF);
        dueStore(2, 6139, -2047, DONE, 0x89ABCDEF);
        dueStore(2, 2045, 2047, DONE, 0x89ABCDEF);
        dueStore(1, 4092, 1, 6, 4093);
        dueStore(1, 4092, 3, 6, 4095);
        dueStore(1, 4092, 5, 6, 4097);
        for (int t : new int[] {1, 2, 3, 5, 6, 7}) {
            dueStore(2, 4092, t, 6, 4092 + t);
        }
        for (int f = 0; f < 3; f++) {
            dueStore(f, 4092, 4, 7, 4096);
            dueStore(f, 0, -4, 7, -4);
            dueStore(f, MIN, -4, 7, MAX - 3);
        }
        dueStore(0, 0, -1, 7, -1);
        for (int f = 3; f < 8; f++) {
            dueStore(f, 4092, 1, 2, Words.store(f, 1, 2, 1));
        }
    }

    /** With DONE, wanted is what the word at 4092 becomes; with an exception, its value. */
    private static void dueStore(int f, int x1, int t, int answer, int wanted) {
        String what = "9: store f " + f + " at " + x1 + " + " + t;
        WordUnit x = new WordUnit();
        x.poke(4076, 0, 0, 0, 0x22222222, 0x11111111);
        x.put(1, x1);
        x.put(2, 0x89ABCDEF);
        Due.due(what, answer, x.doWord(Words.store(f, 1, 2, t)));
        boolean done = answer == DONE;
        dueTold(what, x, done ? 4 : 0, answer, done ? 0 : wanted, done ? 1 : 0);
        Due.due(what + ", the word", done ? wanted : 0x11111111, x.word(4092));
        Due.due(what + ", the word before", 0x22222222, x.word(4088));
        Due.due(what + ", the first word", 0, x.word(0));
    }

    private static void promise9WordsThatPutToARegister() {
        WordUnit x = at(100);
        x.put(1, -20);
        x.put(2, 3);
        dueX5(x, Words.withH(55, 5, 0x12345000), 0x12345000);
        dueX5(x, Words.withH(55, 5, MIN), MIN);
        int pc = x.told(0);
        dueX5(x, Words.withH(23, 5, 0x7000), pc + 0x7000);
        dueX5(x, Words.withH(23, 5, -4096), pc + 4 - 4096);
        dueX5(x, Words.add(5, 1, 2047), 2027);
        dueX5(x, Words.add(5, 1, -2048), -2068);
        dueX5(x, Words.shift(0, 1, 5, 1, 31), 0);
        dueX5(x, Words.shift(0, 1, 5, 2, 31), MIN);
        dueX5(x, Words.shift(0, 5, 5, 1, 28), 15);
        dueX5(x, Words.shift(32, 5, 5, 1, 2), -5);
        dueX5(x, Words.registers(0, 0, 5, 1, 2), -17);
        dueX5(x, Words.registers(32, 0, 5, 1, 2), -23);
        dueX5(x, Words.registers(1, 4, 5, 1, 2), -6);
        dueX5(x, Words.registers(1, 6, 5, 1, 2), -2);
        x.put(5, 7);
        Due.due("9: x5 by itself", DONE, x.doWord(Words.registers(1, 0, 5, 5, 5)));
        Due.due("9: x5 by itself", 49, x.get(5));
        Due.due("9: 19 with a wrong g", 2, x.doWord(Words.shift(32, 1, 5, 1, 1)));
        Due.due("9: 51 with a wrong g", 2, x.doWord(Words.registers(2, 0, 5, 1, 2)));
        Due.due("9: x5 stays", 49, x.get(5));
        x.put(9, 1);
        Due.due("9: to x0", DONE, x.doWord(Words.registers(0, 0, 0, 9, 9)));
        dueX5(x, Words.registers(0, 0, 5, 0, 0), 0);
    }

    private static void dueX5(WordUnit x, int word, int want) {
        int pc = x.told(0);
        x.put(5, 999);
        Due.due("9: doWord(" + word + ")", DONE, x.doWord(word));
        Due.due("9: x5 by " + word, want, x.get(5));
        Due.due("9: the PC by " + word, pc + 4, x.told(0));
    }

    private static void promise10Told() {
        WordUnit x = new WordUnit();
        for (int which : new int[] {-1, 4, 5, MIN, MAX}) {
            Due.due("10: told(" + which + ")", BAD, x.told(which));
        }
        dueTold("10: at first", x, 0, DONE, 0, 0);
        x.doWord(-1);
        dueTold("10: an exception", x, 0, 2, -1, 0);
        x.poke(0, 1, 2, 3, 4, 5);
        x.poke(1, 1, 2, 3, 4, 5);
        x.put(1, 2);
        x.get(40);
        x.word(3);
        x.field(0, 11);
        x.reckon(Words.NOTHING, 1, 2);
        x.reckon(0, 1, 2);
        x.go(8);
        x.go(9);
        dueTold("10: other calls leave it", x, 8, 2, -1, 0);
        x.doWord(Words.NOTHING);
        dueTold("10: done", x, 12, DONE, 0, 1);
        x.doWord(Words.jump(0, 2));
        dueTold("10: exception 0", x, 12, 0, 14, 1);
        x.go(4096);
        x.step();
        dueTold("10: exception 1", x, 4096, 1, 4096, 1);
    }

    private static void promise11Field() {
        dueFields(0, 0, 0, 0, 0, 0);
        dueFields(127, 31, 7, 31, 31, 127);
        dueFields(1, 2, 4, 8, 16, 64);
        dueFields(64, 1, 1, 1, 1, 1);
        dueFields(0, 31, 0, 31, 0, 127);
        dueFields(127, 0, 7, 0, 31, 0);
        WordUnit x = new WordUnit();
        for (int i : new int[] {-2048, -1, 0, 1, 1024, 2047}) {
            Due.due("11: I " + i, i, x.field(Words.withI(127, 7, 31, 31, i), 6));
            Due.due("11: I " + i, i, x.field(Words.withI(0, 0, 0, 0, i), 6));
        }
        for (int t : new int[] {-2048, -1, 0, 1, 31, 32, 1024, 2047}) {
            Due.due("11: T " + t, t, x.field(Words.store(7, 31, 31, t), 7));
            Due.due("11: T " + t, t, x.field(Words.store(0, 0, 0, t), 7));
        }
        for (int by : new int[] {-4096, -2, 0, 2, 16, 30, 32, 1024, 2016, 2048, 4094}) {
            Due.due("11: B " + by, by, x.field(Words.branch(7, 31, 31, by), 8));
            Due.due("11: B " + by, by, x.field(Words.branch(0, 0, 0, by), 8));
        }
        for (int h : new int[] {MIN, -4096, 0, 4096, 0x12345000, MAX - 4095}) {
            Due.due("11: H " + h, h, x.field(h | 0xFFF, 9));
            Due.due("11: H " + h, h, x.field(h, 9));
        }
        for (int by : new int[] {-1048576, -2, 0, 2, 1024, 2046, 2048, 4096, 524288, 1044480, 1048574}) {
            Due.due("11: J " + by, by, x.field(Words.jump(31, by), 10));
            Due.due("11: J " + by, by, x.field(Words.jump(0, by), 10));
        }
        for (int which : new int[] {-1, 12, 13, MIN, MAX}) {
            Due.due("11: field(-1, " + which + ")", 0, x.field(-1, which));
        }
        Due.due("11: every word answers, named or not", 127, x.field(127, 0));
    }

    private static void dueFields(int op, int d, int f, int a, int b, int g) {
        WordUnit x = new WordUnit();
        int word = g << 25 | b << 20 | a << 15 | f << 12 | d << 7 | op;
        int[] want = {op, d, f, a, b, g};
        for (int which = 0; which < want.length; which++) {
            Due.due("11: field(" + word + ", " + which + ")", want[which], x.field(word, which));
        }
    }

    private static void promise11Named() {
        for (int op = 0; op < 128; op++) {
            for (int f = 0; f < 8; f++) {
                WordUnit x = new WordUnit();
                for (int g = 0; g < 128; g++) {
                    int word = g << 25 | f << 12 | op;
                    Due.due("11: field(" + word + ", 11)", isNamed(op, f, g) ? 1 : 0, x.field(word, 11));
                    int rest = word | 31 << 7 | 31 << 15 | 31 << 20;
                    Due.due("11: field(" + rest + ", 11)", isNamed(op, f, g) ? 1 : 0, x.field(rest, 11));
                }
            }
        }
    }

    private static boolean isNamed(int op, int f, int g) {
        String fs = switch (op) {
            case 55, 23, 111, 115 -> "01234567";
            case 103 -> "0";
            case 99 -> "014567";
            case 3 -> "01245";
            case 35 -> "012";
            case 15 -> "01";
            case 19 -> g == 0 ? "01234567" : g == 32 ? "0234567" : "023467";
            case 51 -> g == 0 || g == 1 ? "01234567" : g == 32 ? "05" : "";
            default -> "";
        };
        return fs.indexOf('0' + f) >= 0;
    }

    private static void promise12Reckon() {
        WordUnit x = new WordUnit();
        x.put(1, 1000);
        x.put(2, 2000);
        x.go(400);
        dueReckon(x, Words.withH(55, 3, 0x7FFFF000), 1, 2, 0x7FFFF000);
        dueReckon(x, Words.withH(23, 3, 0x7FFFF000), 1, 2, 0x7FFFF000);
        dueReckon(x, Words.add(3, 1, -7), 5, 99, -2);
        dueReckon(x, Words.add(3, 1, 1), MAX, 0, MIN);
        dueReckon(x, Words.withI(19, 2, 3, 1, -7), -8, 0, 1);
        dueReckon(x, Words.withI(19, 2, 3, 1, -7), -7, 0, 0);
        dueReckon(x, Words.withI(19, 3, 3, 1, -7), 5, 0, 1);
        dueReckon(x, Words.withI(19, 3, 3, 1, 7), -5, 0, 0);
        dueReckon(x, Words.withI(19, 4, 3, 1, -1), 0x0F0F0F0F, 0, 0xF0F0F0F0);
        dueReckon(x, Words.withI(19, 6, 3, 1, -2048), 1, 0, -2047);
        dueReckon(x, Words.withI(19, 7, 3, 1, -2048), -1, 0, -2048);
        dueReckon(x, Words.shift(0, 1, 3, 1, 4), -1, 31, -16);
        dueReckon(x, Words.shift(0, 5, 3, 1, 4), -1, 31, 0x0FFFFFFF);
        dueReckon(x, Words.shift(32, 5, 3, 1, 4), MIN, 31, MIN >> 4);
        dueReckon(x, Words.shift(0, 5, 3, 1, 0), MIN, 31, MIN);
        for (int f = 0; f < 8; f++) {
            int[] plain = {-16 + 35, -16 << 3, 1, 0, -16 ^ 35, -16 >>> 3, -16 | 35, -16 & 35};
            dueReckon(x, Words.registers(0, f, 3, 1, 2), -16, 35, plain[f]);
        }
        dueReckon(x, Words.registers(32, 0, 3, 1, 2), MIN, 1, MAX);
        dueReckon(x, Words.registers(32, 5, 3, 1, 2), -16, 35, -2);
        dueReckon(x, Words.registers(0, 0, 0, 0, 0), 7, 8, 15);
        dueReckon(x, Words.registers(0, 0, 3, 4, 4), 7, 8, 15);
        int[] none = {0, -1, 127, Words.SYSTEM, Words.jump(1, 8), Words.jumpRegister(1, 1, 4), Words.branch(0, 1, 2, 8),
            Words.load(2, 1, 1, 4), Words.store(2, 1, 2, 4), Words.withI(15, 0, 1, 1, 1), Words.shift(1, 1, 3, 1, 1),
            Words.shift(32, 1, 3, 1, 1), Words.shift(64, 5, 3, 1, 1), Words.shift(33, 5, 3, 1, 1),
            Words.registers(2, 0, 3, 1, 2), Words.registers(33, 0, 3, 1, 2), Words.registers(32, 1, 3, 1, 2),
            Words.registers(32, 4, 3, 1, 2), Words.registers(64, 5, 3, 1, 2), Words.registers(127, 7, 3, 1, 2)};
        for (int word : none) {
            dueReckon(x, word, 5, 3, 0);
        }
        dueTold("12: reckon does nothing", x, 400, DONE, 0, 0);
        Due.due("12: x1 stays", 1000, x.get(1));
        Due.due("12: x3 stays", 0, x.get(3));
    }

    private static void promise12ReckonProductsAndQuotients() {
        WordUnit x = new WordUnit();
        // x, y, then by f: product, upper, upper with y U, upper U, quotient, so U, rest, so U
        int[][] rows = {
            {7, 2, 14, 0, 0, 0, 3, 3, 1, 1},
            {-7, 2, -14, -1, -1, 1, -3, 0x7FFFFFFC, -1, 1},
            {7, -2, -14, -1, 6, 6, -3, 0, 1, 7},
            {-7, -2, 14, 0, -7, -9, 3, 0, -1, -7},
            {MIN, -1, MIN, 0, MIN, MAX, MIN, 0, 0, MIN},
            {MIN, 0, 0, 0, 0, 0, -1, -1, MIN, MIN},
            {0, 0, 0, 0, 0, 0, -1, -1, 0, 0},
            {5, 0, 0, 0, 0, 0, -1, -1, 5, 5},
            {-1, -1, 1, 0, -1, -2, 1, 1, 0, 0},
            {MIN, MIN, 0, 1 << 30, -1 << 30, 1 << 30, 1, 1, 0, 0},
            {MAX, MIN, MIN, -(1 << 30), (1 << 30) - 1, (1 << 30) - 1, 0, 0, MAX, MAX},
            {MIN, MAX, MIN, -(1 << 30), -(1 << 30), (1 << 30) - 1, -1, 1, -1, 1},
            {-1, MAX, -MAX, -1, -1, MAX - 1, 0, 2, -1, 1}};
        for (int[] row : rows) {
            for (int f = 0; f < 8; f++) {
                dueReckon(x, Words.registers(1, f, 3, 1, 2), row[0], row[1], row[2 + f]);
            }
        }
    }

    private static void dueReckon(WordUnit unit, int word, int x, int y, int want) {
        Due.due("12: reckon(" + word + ", " + x + ", " + y + ")", want, unit.reckon(word, x, y));
    }

    private static WordUnit at(int pc) {
        WordUnit x = new WordUnit();
        x.go(pc);
        return x;
    }

    private static void dueTold(String what, WordUnit x, int pc, int exception, int value, int done) {
        Due.due(what + ", told(0)", pc, x.told(0));
        Due.due(what + ", told(1)", exception, x.told(1));
        Due.due(what + ", told(2)", value, x.told(2));
        Due.due(what + ", told(3)", done, x.told(3));
    }
}
