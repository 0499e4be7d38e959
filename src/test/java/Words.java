/** Makes words out of their fields. */
final class Words {
    static final int NOTHING = 19; // x0 becomes x0 + 0
    static final int SYSTEM = 115;

    private Words() {
    }

    /** Op 51. */
    static int registers(int g, int f, int d, int a, int b) {
        return g << 25 | b << 20 | a << 15 | f << 12 | d << 7 | 51;
    }

    /** The form with I: ops 19, 3, 103, 15. */
    static int withI(int op, int f, int d, int a, int i) {
        return i << 20 | a << 15 | f << 12 | d << 7 | op;
    }

    static int add(int d, int a, int i) {
        return withI(19, 0, d, a, i);
    }

    static int shift(int g, int f, int d, int a, int by) {
        return withI(19, f, d, a, g << 5 | by);
    }

    static int load(int f, int d, int a, int i) {
        return withI(3, f, d, a, i);
    }

    static int store(int f, int a, int b, int t) {
        return (t >> 5 & 127) << 25 | b << 20 | a << 15 | f << 12 | (t & 31) << 7 | 35;
    }

    static int branch(int f, int a, int b, int by) {
        return (by >> 12 & 1) << 31 | (by >> 5 & 63) << 25 | b << 20 | a << 15 | f << 12
                | (by >> 1 & 15) << 8 | (by >> 11 & 1) << 7 | 99;
    }

    /** Ops 55 and 23; the lowest twelve bits of h are left out. */
    static int withH(int op, int d, int h) {
        return h & 0xFFFFF000 | d << 7 | op;
    }

    static int jump(int d, int by) {
        return (by >> 20 & 1) << 31 | (by >> 1 & 1023) << 21 | (by >> 11 & 1) << 20
                | (by >> 12 & 255) << 12 | d << 7 | 111;
    }

    static int jumpRegister(int d, int a, int i) {
        return withI(103, 0, d, a, i);
    }
}
