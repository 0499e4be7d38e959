/** The sentences of promises 1 to 12 that name a boundary case, each with a test of its own. */
public final class EdgesOfPromisesTest {
    private static final int MIN = Integer.MIN_VALUE, MAX = Integer.MAX_VALUE;
    private static final int DONE = WordUnit.DONE, BAD = WordUnit.BAD;
    private static final int PC = Edge.PC, EXCEPTION = Edge.EXCEPTION, VALUE = Edge.VALUE, COUNT = Edge.COUNT;
    private static final int NOTHING = Words.NOTHING, SYSTEM = Words.SYSTEM;

    public static void main(String[] args) {
        constants();
        allCallsOfAnObject();
        newObjectIs0();
        pokeBringsFiveWords();
        pokeIsBadAtNoMultipleOf4();
        pokeIsBadOutsideMemory();
        wordAtAnAddress();
        wordIs0AtNoMultipleOf4();
        wordIs0OutsideMemory();
        putAnswersWhatWas();
        putLeavesX0();
        putToNoRegister();
        getOfARegister();
        getOfNoRegister();
        goAnywhere();
        goIsBadAtNoMultipleOf4();
        stepAnswers();
        runTakesFrom0To2000();
        runIsBadWithAnotherN();
        runStopsAtAnException();
        doWordAnswers();
        doWordAsIfAtThePc();
        toldThePc();
        toldTheException();
        toldTheValue();
        toldHowManyWereDone();
        toldIsBadWithAnotherNumber();
        fieldsOfAWord();
        fieldTellsWhetherNamed();
        fieldIs0WithAnotherNumber();
        reckonTakesXAndYAndPc0();
        reckonIs0OfAnotherOp();
        reckonIs0OfAnIllegalWord();
        reckonChangesNothing();
        Due.end();
    }

    private static void constants() {
        Due.sentence("The public face: BAD = -1, DONE = -1");
        Due.due("BAD", -1, WordUnit.BAD);
        Due.due("DONE", -1, WordUnit.DONE);
    }

    private static void allCallsOfAnObject() {
        Due.sentence("An object is used for at most 512 calls after it has been made");
        WordUnit x = new WordUnit();
        x.poke(0, Words.add(1, 1, 1), Words.jump(0, -4), 0, 0, 0);
        for (int call = 2; call < 511; call++) {
            Due.due("run(2000), call " + call, 2000, x.run(2000));
        }
        Due.due("call 511: told(3)", 509 * 2000, x.told(3));
        Due.due("call 512: get(1)", 509 * 1000, x.get(1));
    }

    // ---- promise 1

    private static void newObjectIs0() {
        Due.sentence("Promise 1: All registers, the PC and memory are 0.");
        for (int quarter = 0; quarter < 4; quarter++) {
            WordUnit x = new WordUnit();
            Due.due("told(0)", 0, x.told(0));
            for (int n = 0; n < 32; n++) {
                Due.due("get(" + n + ")", 0, x.get(n));
            }
            for (int address = 1024 * quarter; address < 1024 * (quarter + 1); address += 4) {
                Due.due("word(" + address + ")", 0, x.word(address));
            }
        }
        Edge.at(0).due("a second object beside a full one", 0, x -> new WordUnit().get(31));
    }

    // ---- promise 2

    private static void pokeBringsFiveWords() {
        Due.sentence("Promise 2: Five words come to memory, from an address on: 0.");
        for (int at : new int[] {0, 4, 16, 20, 2048, 4060, 4072, 4076}) {
            Edge.at(40).due("poke(" + at + ", ..)", 0, x -> x.poke(at, MIN, -1, 0, 1, MAX),
                    Edge.word(at), MIN, Edge.word(at + 4), -1, Edge.word(at + 8), 0,
                    Edge.word(at + 12), 1, Edge.word(at + 16), MAX);
        }
    }

    private static void pokeIsBadAtNoMultipleOf4() {
        Due.sentence("Promise 2: BAD: it is no multiple of 4");
        for (int at : new int[] {1, 2, 3, 5, 6, 7, 4073, 4074, 4075}) {
            dueBadPoke(at);
        }
    }

    private static void pokeIsBadOutsideMemory() {
        Due.sentence("Promise 2: BAD: .. or some byte is not of memory.");
        for (int at : new int[] {-4, -8, -12, -16, -20, -24, 4080, 4084, 4088, 4092, 4096, 4100, 8192,
            -4096, 1 << 14, 1 << 30, MIN, MIN + 4, MAX - 3, MAX - 19}) {
            dueBadPoke(at);
        }
        Due.sentence("Promise 2: BAD: it is no multiple of 4, or some byte is not of memory. (both)");
        for (int at : new int[] {-1, -2, -3, 4077, 4078, 4079, 4095, 4097, MAX, MIN + 1}) {
            dueBadPoke(at);
        }
    }

    private static void dueBadPoke(int at) {
        Edge.at(40).due("poke(" + at + ", ..)", BAD, x -> x.poke(at, 9, 9, 9, 9, 9));
    }

    // ---- promise 3

    private static void wordAtAnAddress() {
        Due.sentence("Promise 3: The word at an address");
        for (int at : new int[] {0, 4, 2044, 2048, 4088, 4092}) {
            dueWord(at, Edge.fullWord(at));
        }
    }

    private static void wordIs0AtNoMultipleOf4() {
        Due.sentence("Promise 3: 0, if that is no multiple of 4");
        for (int at : new int[] {1, 2, 3, 5, 2045, 4090, 4091, 4093, 4094, 4095}) {
            dueWord(at, 0);
        }
    }

    private static void wordIs0OutsideMemory() {
        Due.sentence("Promise 3: 0, if .. or not of memory.");
        for (int at : new int[] {-4, -8, 4096, 4100, 8188, 8192, -4096, 1 << 14, 1 << 30, 1 << 30 | 4, MIN,
            MIN + 4, MAX - 3}) {
            dueWord(at, 0);
        }
        Due.sentence("Promise 3: 0, if that is no multiple of 4, or not of memory. (both)");
        for (int at : new int[] {-1, -2, -3, 4097, 4098, 4099, MIN + 1, MAX}) {
            dueWord(at, 0);
        }
    }

    private static void dueWord(int at, int want) {
        Edge.at(40).due("word(" + at + ")", want, x -> x.word(at));
    }

    // ---- promises 4 and 5

    private static void putAnswersWhatWas() {
        Due.sentence("Promise 4: A register becomes v: what it was.");
        for (int n : new int[] {1, 2, 15, 16, 30, 31}) {
            for (int v : new int[] {MIN, -1, 0, 1, MAX}) {
                Edge.at(40).due("put(" + n + ", " + v + ")", Edge.fullRegister(n), x -> x.put(n, v), Edge.x(n), v);
            }
            Edge.at(40).put(n, MIN).due("put again", MIN, x -> x.put(n, MAX), Edge.x(n), MAX);
        }
    }

    private static void putLeavesX0() {
        Due.sentence("Promise 4: (x0 stays)");
        for (int v : new int[] {MIN, -1, 0, 1, MAX}) {
            Edge.at(40).due("put(0, " + v + ")", 0, x -> x.put(0, v));
            Edge.at(40).put(0, v).due("put(0, 5) again", 0, x -> x.put(0, 5));
        }
    }

    private static final int[] NO_REGISTERS = {-1, -2, -31, -32, 32, 33, 63, 64, 256, 65536 + 5, 1 << 30, MIN, MIN + 1, MAX};

    private static void putToNoRegister() {
        Due.sentence("Promise 4: 0, changing nothing: there is none.");
        for (int n : NO_REGISTERS) {
            Edge.at(40).due("put(" + n + ", 7)", 0, x -> x.put(n, 7));
            Edge.at(40).put(n, 7).due("put(" + n + ", 8) again", 0, x -> x.put(n, 8));
        }
    }

    private static void getOfARegister() {
        Due.sentence("Promise 5: A register");
        for (int n = 0; n < 32; n++) {
            int register = n;
            Edge.at(40).due("get(" + n + ")", Edge.fullRegister(n), x -> x.get(register));
        }
    }

    private static void getOfNoRegister() {
        Due.sentence("Promise 5: 0: there is none.");
        for (int n : NO_REGISTERS) {
            Edge.at(40).due("get(" + n + ")", 0, x -> x.get(n));
            Edge.at(40).put(n, 7).due("get(" + n + ") after a put", 0, x -> x.get(n));
        }
    }

    // ---- promise 6

    private static void goAnywhere() {
        Due.sentence("Promise 6: The PC becomes another one: 0.");
        for (int pc : new int[] {0, 4, 4088, 4092, 4096, 4100, -4, -8, MIN, MIN + 4, MAX - 3, MAX - 7}) {
            Edge.at(40).due("go(" + pc + ")", 0, x -> x.go(pc), PC, pc);
        }
    }

    private static void goIsBadAtNoMultipleOf4() {
        Due.sentence("Promise 6: BAD: it is no multiple of 4.");
        for (int pc : new int[] {1, 2, 3, 5, 6, 7, 4093, 4094, 4095, 4097, -1, -2, -3, -5, MIN + 1, MIN + 2,
            MIN + 3, MAX, MAX - 1, MAX - 2}) {
            Edge.at(40).due("go(" + pc + ")", BAD, x -> x.go(pc));
        }
    }

    // ---- promise 7

    private static void stepAnswers() {
        Due.sentence("Promise 7: A step: DONE, or the exception.");
        for (int pc : new int[] {0, 4, 4088, 4092}) {
            Edge.at(pc).place(pc, NOTHING).due("a step at " + pc, DONE, x -> x.step(),
                    PC, pc + 4, EXCEPTION, DONE, VALUE, 0, COUNT, Edge.COUNT_BEFORE + 1);
        }
        for (Unable u : unableAt(2000)) {
            Edge.at(2000).place(2000, u.word).due("a step to " + u, u.exception, x -> x.step(),
                    EXCEPTION, u.exception, VALUE, u.value);
        }
        for (int pc : new int[] {-4, -8, 4096, 4100, 8192, MIN, MAX - 3}) {
            Edge.at(pc).due("a step at " + pc, 1, x -> x.step(), EXCEPTION, 1, VALUE, pc);
        }
    }

    /** A word that can't be done, with its exception and the value of it. */
    private static final class Unable {
        final int word, exception, value;

        Unable(int word, int exception, int value) {
            this.word = word;
            this.exception = exception;
            this.value = value;
        }

        @Override public String toString() {
            return "exception " + exception + " by " + word;
        }
    }

    /** With x0 as the only register read, so that they are the same in every unit. */
    private static Unable[] unableAt(int pc) {
        return new Unable[] {
            new Unable(Words.jump(5, 2), 0, pc + 2),
            new Unable(Words.jumpRegister(5, 0, 6), 0, 6),
            new Unable(Words.branch(0, 0, 0, -2), 0, pc - 2),
            new Unable(0, 2, 0),
            new Unable(-1, 2, -1),
            new Unable(Words.load(2, 5, 0, 2), 4, 2),
            new Unable(Words.load(0, 5, 0, -1), 5, -1),
            new Unable(Words.store(1, 0, 6, 3), 6, 3),
            new Unable(Words.store(2, 0, 6, -4), 7, -4),
            new Unable(SYSTEM, 100, SYSTEM)};
    }

    // ---- promise 8

    private static void runTakesFrom0To2000() {
        Due.sentence("Promise 8: Steps, at most n (0 .. 2,000)");
        Edge.at(40).due("run(0)", 0, x -> x.run(0));
        Edge.at(4096).due("run(0) where no step can be done", 0, x -> x.run(0));
        for (int n : new int[] {1, 2, 3, 1998, 1999, 2000}) {
            dueLoop(n, n % 2 == 0 ? 40 : 44);
        }
    }

    /** At 40: x1 becomes x1 + 1; at 44: back to 40. */
    private static void dueLoop(int n, int pc) {
        WordUnit x = new WordUnit();
        x.poke(40, Words.add(1, 1, 1), Words.jump(0, -4), 0, 0, 0);
        x.go(40);
        Due.due("run(" + n + ")", n, x.run(n));
        Due.due("x1 after run(" + n + ")", (n + 1) / 2, x.get(1));
        Due.due("the PC after run(" + n + ")", pc, x.told(0));
        Due.due("the exception after run(" + n + ")", DONE, x.told(1));
        Due.due("done after run(" + n + ")", n, x.told(3));
    }

    private static void runIsBadWithAnotherN() {
        Due.sentence("Promise 8: BAD: another n.");
        for (int n : new int[] {-1, -2, -2000, 2001, 2002, 4000, 65536, MIN, MIN + 1, MAX}) {
            Edge.at(40).place(40, NOTHING).due("run(" + n + ")", BAD, x -> x.run(n));
            Edge.at(4096).due("run(" + n + ") where no step can be done", BAD, x -> x.run(n));
        }
    }

    private static void runStopsAtAnException() {
        Due.sentence("Promise 8: as long as they are done: how many were.");
        for (int n = 0; n < 5; n++) {
            for (Unable u : unableAt(4 * n)) {
                dueStop(n, 2000, u);
                dueStop(n, n + 1, u);
                dueNoStop(n, u);
            }
        }
        for (int n = 0; n < 4; n++) {
            WordUnit x = new WordUnit();
            x.poke(4076, NOTHING, NOTHING, NOTHING, NOTHING, NOTHING);
            x.go(4096 - 4 * n);
            Due.due("run(2000) to the end of memory", n, x.run(2000));
            dueTold("at the end of memory", x, 4096, 1, 4096, n);
        }
        WordUnit x = new WordUnit();
        x.go(-4);
        Due.due("run(2000) before memory", 0, x.run(2000));
        dueTold("before memory", x, -4, 1, -4, 0);
    }

    /** A run over n words that are done to one that is not. */
    private static void dueStop(int n, int most, Unable u) {
        WordUnit x = nothingsAndThen(n, u.word);
        Due.due("run(" + most + ") over " + n + " to " + u, n, x.run(most));
        dueTold("run(" + most + ") over " + n + " to " + u, x, 4 * n, u.exception, u.value, n);
        Due.due("run again at " + u, 0, x.run(most));
        dueTold("run again at " + u, x, 4 * n, u.exception, u.value, n);
    }

    /** A run that ends just before the word that can't be done does not tell of it. */
    private static void dueNoStop(int n, Unable u) {
        WordUnit x = nothingsAndThen(n, u.word);
        Due.due("run(" + n + ") before " + u, n, x.run(n));
        dueTold("run(" + n + ") before " + u, x, 4 * n, DONE, 0, n);
    }

    private static WordUnit nothingsAndThen(int n, int word) {
        int[] w = {NOTHING, NOTHING, NOTHING, NOTHING, NOTHING};
        w[n] = word;
        WordUnit x = new WordUnit();
        x.poke(0, w[0], w[1], w[2], w[3], w[4]);
        return x;
    }

    // ---- promise 9

    private static void doWordAnswers() {
        Due.sentence("Promise 9: A word is done: DONE, or the exception.");
        for (int pc : new int[] {0, 40, 4092, 4096, -4, MIN, MAX - 3}) {
            Edge.at(pc).due("NOTHING at " + pc, DONE, x -> x.doWord(NOTHING),
                    PC, pc + 4, EXCEPTION, DONE, VALUE, 0, COUNT, Edge.COUNT_BEFORE + 1);
            for (Unable u : unableAt(pc)) {
                Edge.at(pc).due(u + " at " + pc, u.exception, x -> x.doWord(u.word),
                        EXCEPTION, u.exception, VALUE, u.value);
            }
        }
    }

    private static void doWordAsIfAtThePc() {
        Due.sentence("Promise 9: as if it stood at the PC");
        for (int pc : new int[] {0, 40, 4092, 4096, -8, MIN, MAX - 7}) {
            Edge.at(pc).done("23 at " + pc, Words.withH(23, 5, 4096), Edge.x(5), pc + 4096);
            Edge.at(pc).done("111 at " + pc, Words.jump(5, 8), Edge.x(5), pc + 4, PC, pc + 8);
            Edge.at(pc).done("99 at " + pc, Words.branch(0, 0, 0, -8), PC, pc - 8);
        }
        Edge.at(40).place(40, SYSTEM).due("not the word in memory", DONE, x -> x.doWord(Words.add(5, 0, 1)),
                Edge.x(5), 1, PC, 44, EXCEPTION, DONE, VALUE, 0, COUNT, Edge.COUNT_BEFORE + 1);
        Edge.at(40).place(40, NOTHING).due("a load of the word at the PC is of memory", DONE,
                x -> x.doWord(Words.load(2, 5, 0, 40)),
                Edge.x(5), NOTHING, PC, 44, EXCEPTION, DONE, VALUE, 0, COUNT, Edge.COUNT_BEFORE + 1);
    }

    // ---- promise 10

    private static void toldThePc() {
        Due.sentence("Promise 10: 0 the PC");
        Due.due("at first", 0, new WordUnit().told(0));
        for (int pc : new int[] {0, 4092, 4096, -4, MIN, MAX - 3}) {
            Edge.at(pc).due("told(0)", pc, x -> x.told(0));
        }
    }

    private static void toldTheException() {
        Due.sentence("Promise 10: 1 the exception of the last step or word (DONE without, or at first)");
        Due.due("at first", DONE, new WordUnit().told(1));
        for (Unable u : unableAt(0)) {
            WordUnit x = new WordUnit();
            x.doWord(u.word);
            Due.due("told(1) of " + u, u.exception, x.told(1));
            otherCalls(x);
            Due.due("told(1) of " + u + " after other calls", u.exception, x.told(1));
            x.doWord(NOTHING);
            Due.due("told(1) behind " + u, DONE, x.told(1));
        }
        WordUnit x = new WordUnit();
        x.go(4096);
        x.step();
        Due.due("told(1) of exception 1", 1, x.told(1));
        otherCalls(x);
        Due.due("told(1) of exception 1 after other calls", 1, x.told(1));
        x.go(0);
        x.step();
        Due.due("told(1) of another exception", 2, x.told(1));
    }

    private static void toldTheValue() {
        Due.sentence("Promise 10: 2 its value (0 without)");
        Due.due("at first", 0, new WordUnit().told(2));
        for (Unable u : unableAt(0)) {
            WordUnit x = new WordUnit();
            x.doWord(u.word);
            Due.due("told(2) of " + u, u.value, x.told(2));
            otherCalls(x);
            Due.due("told(2) of " + u + " after other calls", u.value, x.told(2));
            x.doWord(NOTHING);
            Due.due("told(2) behind " + u, 0, x.told(2));
        }
        for (int pc : new int[] {-4, 4096, MIN, MAX - 3}) {
            WordUnit x = new WordUnit();
            x.go(pc);
            x.step();
            Due.due("told(2) of exception 1", pc, x.told(2));
            x.go(0);
            Due.due("told(2) of exception 1 after go", pc, x.told(2));
        }
    }

    /** Calls that do no step and no word, well and badly; none of them is to change what is told but the PC. */
    private static void otherCalls(WordUnit x) {
        x.poke(0, NOTHING, 2, 3, 4, 5);
        x.poke(-4, 1, 2, 3, 4, 5);
        x.poke(0, 0, 0, 0, 0, 0);
        x.word(0);
        x.word(1);
        x.put(1, 5);
        x.put(32, 5);
        x.get(1);
        x.get(32);
        x.go(8);
        x.go(9);
        x.run(0);
        x.run(-1);
        x.run(2001);
        x.told(3);
        x.told(4);
        x.field(NOTHING, 11);
        x.field(0, 11);
        x.reckon(NOTHING, 1, 2);
        x.reckon(0, 1, 2);
    }

    private static void toldHowManyWereDone() {
        Due.sentence("Promise 10: 3 how many steps and words were done in all");
        WordUnit x = new WordUnit();
        Due.due("at first", 0, x.told(3));
        x.doWord(NOTHING);
        Due.due("a word", 1, x.told(3));
        x.poke(4, NOTHING, NOTHING, NOTHING, SYSTEM, 0);
        x.step();
        Due.due("a step", 2, x.told(3));
        x.run(2000);
        Due.due("two steps of a run", 4, x.told(3));
        for (Unable u : unableAt(0)) {
            x.doWord(u.word);
        }
        x.step();
        x.go(-4);
        x.step();
        x.run(2000);
        Due.due("none at an exception", 4, x.told(3));
        otherCalls(x);
        Due.due("none by other calls", 4, x.told(3));
        x.doWord(Words.withI(15, 0, 0, 0, 0));
        Due.due("15 counts", 5, x.told(3));
        x.doWord(Words.branch(1, 0, 0, 2));
        Due.due("99 counts when it does not go there", 6, x.told(3));
        x.doWord(Words.add(0, 0, 1));
        Due.due("what puts to x0 counts", 7, x.told(3));
        x.doWord(Words.jump(0, 0));
        Due.due("a jump to itself counts", 8, x.told(3));
    }

    private static void toldIsBadWithAnotherNumber() {
        Due.sentence("Promise 10: BAD: another number.");
        for (int which : new int[] {-1, -2, 4, 5, 32, 256, 1 << 30, MIN, MIN + 1, MAX}) {
            Edge.at(40).due("told(" + which + ")", BAD, x -> x.told(which));
        }
    }

    // ---- promise 11

    private static void fieldsOfAWord() {
        Due.sentence("Promise 11: Of a word: 0 op, 1 d, 2 f, 3 a, 4 b, 5 g, 6 I, 7 T, 8 B, 9 H, 10 J");
        dueFields(0, 0, 0, 0, 0, 0, 0, 0, 0, 0, 0, 0);
        dueFields(-1, 127, 31, 7, 31, 31, 127, -1, -1, -2, -4096, -2);
        dueFields(MAX, 127, 31, 7, 31, 31, 63, 2047, 2047, 4094, MAX - 4095, 1048574);
        dueFields(MIN, 0, 0, 0, 0, 0, 64, -2048, -2048, -4096, MIN, -1048576);
        Edge.at(40).due("a word of the full unit is not looked at", 0, x -> x.field(0, 9));
    }

    private static void dueFields(int word, int... want) {
        for (int which = 0; which < want.length; which++) {
            int number = which;
            Edge.at(40).due("field(" + word + ", " + which + ")", want[which], x -> x.field(word, number));
        }
    }

    private static void fieldTellsWhetherNamed() {
        Due.sentence("Promise 11: 11 whether it is one of those named (1 or 0; SYSTEM counts as one)");
        WordUnit x = new WordUnit();
        for (int word : new int[] {SYSTEM, 115 | -1 << 7, 115 | 1 << 20, 115 | 7 << 12, NOTHING, 51, 55, 23, 111, 103,
            99, 3, 35, 15, 15 | 1 << 12}) {
            Due.due("field(" + word + ", 11)", 1, x.field(word, 11));
        }
        for (int word : new int[] {0, -1, 114, 116, 113, 117, 127, 103 | 1 << 12, 99 | 2 << 12, 3 | 3 << 12,
            35 | 3 << 12, 15 | 2 << 12, NOTHING | 1 << 12 | 1 << 25, 51 | 2 << 25}) {
            Due.due("field(" + word + ", 11)", 0, x.field(word, 11));
        }
    }

    private static void fieldIs0WithAnotherNumber() {
        Due.sentence("Promise 11: 0: another number.");
        for (int which : new int[] {-1, -2, -12, 12, 13, 16, 32, 256, 1 << 30, MIN, MIN + 1, MAX}) {
            for (int word : new int[] {-1, SYSTEM, NOTHING, MIN, MAX}) {
                Edge.at(40).due("field(" + word + ", " + which + ")", 0, x -> x.field(word, which));
            }
        }
    }

    // ---- promise 12

    private static void reckonTakesXAndYAndPc0() {
        Due.sentence("Promise 12: What a word of op 19, 51, 23, 55 puts to x[d], if x[a] is x, x[b] is y and the PC is 0");
        for (int pc : new int[] {0, 40, 4096, -4, MAX - 3}) {
            dueReckon(pc, Words.withH(23, 5, 4096), 7, 8, 4096);
            dueReckon(pc, Words.withH(23, 5, MIN), 7, 8, MIN);
            dueReckon(pc, Words.withH(23, 5, -4096), 7, 8, -4096);
            dueReckon(pc, Words.withH(55, 5, MIN), 7, 8, MIN);
            dueReckon(pc, Words.withH(55, 5, MAX), 7, 8, MAX - 4095);
            dueReckon(pc, Words.add(5, 1, 2047), MAX, 8, MIN + 2046);
            dueReckon(pc, Words.add(5, 1, -2048), MIN, 8, MAX - 2047);
            dueReckon(pc, Words.registers(0, 0, 5, 1, 2), MAX, MAX, -2);
            dueReckon(pc, Words.registers(32, 0, 5, 1, 2), MIN, MAX, 1);
            dueReckon(pc, Words.registers(32, 0, 5, 1, 2), 7, 9, -2);
        }
        Due.sentence("Promise 12: if x[a] is x, x[b] is y, whatever the numbers d, a and b are");
        for (int n : new int[] {0, 1, 31}) {
            dueReckon(40, Words.registers(32, 0, n, 1, 2), 7, 9, -2);
            dueReckon(40, Words.registers(32, 0, 5, n, 2), 7, 9, -2);
            dueReckon(40, Words.registers(32, 0, 5, 1, n), 7, 9, -2);
            dueReckon(40, Words.add(n, n, 3), 7, 9, 10);
            dueReckon(40, Words.withH(55, n, 4096), 7, 9, 4096);
        }
    }

    private static void reckonIs0OfAnotherOp() {
        Due.sentence("Promise 12: 0, if it is none of these");
        for (int op = 0; op < 128; op++) {
            boolean isOne = op == 19 || op == 51 || op == 23 || op == 55;
            for (int f = 0; f < 8 && !isOne; f++) {
                WordUnit x = new WordUnit();
                for (int g : new int[] {0, 1, 32, 127}) {
                    int word = g << 25 | 2 << 20 | 1 << 15 | f << 12 | 5 << 7 | op;
                    Due.due("reckon(" + word + ", 7, 9)", 0, x.reckon(word, 7, 9));
                    Due.due("reckon(" + word + ", -1, MAX)", 0, x.reckon(word, -1, MAX));
                }
            }
        }
    }

    private static void reckonIs0OfAnIllegalWord() {
        Due.sentence("Promise 12: 0, if .. or illegal.");
        for (int g = 0; g < 128; g++) {
            WordUnit x = new WordUnit();
            for (int f = 0; f < 8; f++) {
                boolean named = g == 0 || g == 1 || g == 32 && (f == 0 || f == 5);
                if (!named) {
                    Due.due("51, g " + g + ", f " + f, 0, x.reckon(Words.registers(g, f, 5, 1, 2), -1, 6));
                }
            }
            if (g != 0) {
                Due.due("19, f 1, g " + g, 0, x.reckon(Words.shift(g, 1, 5, 1, 3), -1, 6));
            }
            if (g != 0 && g != 32) {
                Due.due("19, f 5, g " + g, 0, x.reckon(Words.shift(g, 5, 5, 1, 3), -1, 6));
            }
        }
    }

    private static void reckonChangesNothing() {
        Due.sentence("Promise 12: reckon tells what a word would put, and does no word");
        for (int word : new int[] {Words.registers(0, 0, 5, 1, 2), Words.add(5, 1, 0), 0, -1, SYSTEM, Words.jump(5, 8),
            Words.store(2, 0, 1, 0), Words.load(2, 5, 0, 0)}) {
            boolean isSum = (word & 127) == 51 || (word & 127) == 19;
            Edge.at(40).due("reckon(" + word + ", 7, 0)", isSum ? 7 : 0, x -> x.reckon(word, 7, 0));
        }
    }

    private static void dueReckon(int pc, int word, int xa, int xb, int want) {
        Edge.at(pc).due("reckon(" + word + ", " + xa + ", " + xb + ") at " + pc, want, x -> x.reckon(word, xa, xb));
    }

    private static void dueTold(String what, WordUnit x, int pc, int exception, int value, int done) {
        Due.due(what + ", told(0)", pc, x.told(0));
        Due.due(what + ", told(1)", exception, x.told(1));
        Due.due(what + ", told(2)", value, x.told(2));
        Due.due(what + ", told(3)", done, x.told(3));
    }
}
