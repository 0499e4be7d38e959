import java.util.ArrayList;
import java.util.List;

/**
 * One call on a unit whose memory and registers are full of numbers that are all different: its answer is
 * as due, and exactly the named parts of the unit change. All of the unit is looked at each time.
 */
final class Edge {
    interface Call {
        int on(WordUnit x);
    }

    /** Parts of a unit; what changes is told as pairs of a part and what it becomes. */
    static final int PC = 0, EXCEPTION = 1, VALUE = 2, COUNT = 3;

    /** How many words a full unit has done. */
    static final int COUNT_BEFORE = 3;

    private static final int TOLD = 4, REGISTERS = 32, WORDS = 1024;

    // An object has 512 calls, too few to look at all of memory: objects made alike each show a part.
    private static final int OBJECTS = 8;

    private final int pc;
    private final List<Call> calls = new ArrayList<>();

    private Edge(int pc) {
        this.pc = pc;
    }

    /** A full unit with this PC. */
    static Edge at(int pc) {
        return new Edge(pc);
    }

    static int x(int n) {
        return TOLD + n;
    }

    static int word(int address) {
        return TOLD + REGISTERS + address / 4;
    }

    /** What the word at an address of a full unit is. */
    static int fullWord(int address) {
        return 0x6B8B4567 * (address / 4 + 1);
    }

    /** What a register of a full unit is. */
    static int fullRegister(int n) {
        return n == 0 ? 0 : 0x3C6EF373 * (n + 1);
    }

    Edge put(int n, int v) {
        return with(x -> x.put(n, v));
    }

    /** One word, the others staying as they are in a full unit. */
    Edge place(int address, int word) {
        int from = Math.min(address, 4076);
        int[] w = new int[5];
        for (int i = 0; i < 5; i++) {
            w[i] = from + 4 * i == address ? word : fullWord(from + 4 * i);
        }
        return with(x -> x.poke(from, w[0], w[1], w[2], w[3], w[4]));
    }

    /** A word is done, by doWord and by a step: but for the changes told, only the PC goes on by 4. */
    void done(String what, int word, int... changes) {
        int[] told = {PC, pc + 4, EXCEPTION, WordUnit.DONE, VALUE, 0, COUNT, COUNT_BEFORE + 1};
        int[] all = joined(told, changes);
        due(what + ", doWord", WordUnit.DONE, x -> x.doWord(word), all);
        if (isPcOfMemory()) {
            Edge placed = copy().place(pc, word);
            placed.due(what + ", step", WordUnit.DONE, x -> x.step(), all);
            placed.due(what + ", run(1)", 1, x -> x.run(1), all);
        }
    }

    /** A word ends with an exception, by doWord and by a step: nothing changes but what is told of it. */
    void exception(String what, int word, int exception, int value) {
        int[] told = {EXCEPTION, exception, VALUE, value};
        due(what + ", doWord", exception, x -> x.doWord(word), told);
        if (isPcOfMemory()) {
            Edge placed = copy().place(pc, word);
            placed.due(what + ", step", exception, x -> x.step(), told);
            placed.due(what + ", run(1)", 0, x -> x.run(1), told);
        }
    }

    /** Any call: its answer, and all that it changes. */
    void due(String what, int answer, Call call, int... changes) {
        int[] want = new int[TOLD + REGISTERS + WORDS];
        int[] got = new int[want.length];
        for (int part = 0; part < OBJECTS; part++) {
            look(made(), part, want);
            WordUnit x = made();
            Due.due(what, answer, call.on(x));
            look(x, part, got);
        }
        for (int i = 0; i < changes.length; i += 2) {
            want[changes[i]] = changes[i + 1];
        }
        for (int part = 0; part < want.length; part++) {
            Due.due(what + ": " + name(part), want[part], got[part]);
        }
    }

    private Edge with(Call call) {
        calls.add(call);
        return this;
    }

    private Edge copy() {
        Edge other = new Edge(pc);
        other.calls.addAll(calls);
        return other;
    }

    private boolean isPcOfMemory() {
        return pc >= 0 && pc <= 4092;
    }

    private WordUnit made() {
        WordUnit x = new WordUnit();
        for (int at = 0; at < 4096; at += 20) {
            int from = Math.min(at, 4076);
            x.poke(from, fullWord(from), fullWord(from + 4), fullWord(from + 8), fullWord(from + 12), fullWord(from + 16));
        }
        for (int n = 1; n < REGISTERS; n++) {
            x.put(n, fullRegister(n));
        }
        for (int i = 0; i < COUNT_BEFORE; i++) {
            x.doWord(Words.NOTHING);
        }
        x.doWord(-1); // so that what is told of an exception is nothing that a new object tells
        x.go(pc);
        for (Call call : calls) {
            call.on(x);
        }
        return x;
    }

    private static void look(WordUnit x, int part, int[] seen) {
        for (int which = 0; which < TOLD; which++) {
            seen[which] = x.told(which);
        }
        for (int n = 0; n < REGISTERS; n++) {
            seen[x(n)] = x.get(n);
        }
        int bytes = 4 * WORDS / OBJECTS;
        for (int address = part * bytes; address < (part + 1) * bytes; address += 4) {
            seen[word(address)] = x.word(address);
        }
    }

    private static int[] joined(int[] first, int[] second) {
        int[] all = new int[first.length + second.length];
        System.arraycopy(first, 0, all, 0, first.length);
        System.arraycopy(second, 0, all, first.length, second.length);
        return all;
    }

    private static String name(int part) {
        if (part < TOLD) {
            return "told(" + part + ")";
        }
        int n = part - TOLD;
        return n < REGISTERS ? "get(" + n + ")" : "word(" + 4 * (n - REGISTERS) + ")";
    }
}
