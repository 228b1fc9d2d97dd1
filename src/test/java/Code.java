/** Words of instructions, and machines that hold them, for tests. */
final class Code {
    /** Where an exception goes on. */
    static final int HANDLER = 0x80000080;

    private Code() {
    }

    /** Order 0: K with S, T, D and A. */
    static int k(int k, int s, int t, int d, int a) {
        return s << 21 | t << 16 | d << 11 | a << 6 | k;
    }

    static int k(int k, int s, int t, int d) {
        return k(k, s, t, d, 0);
    }

    /** Any other order with S, T and the lowest sixteen bits. */
    static int i(int order, int s, int t, int low) {
        return order << 26 | s << 21 | t << 16 | low & 0xFFFF;
    }

    /** Orders 2 and 3. */
    static int far(int order, int bits) {
        return order << 26 | bits & 0x03FFFFFF;
    }

    /** Order 16: T = number D. */
    static int from(int t, int number) {
        return 16 << 26 | t << 16 | number << 11;
    }

    /** Order 16: number D = T. */
    static int to(int t, int number) {
        return 16 << 26 | 4 << 21 | t << 16 | number << 11;
    }

    static int leave() {
        return 16 << 26 | 16 << 21 | 16;
    }

    static int nothing() {
        return 0;
    }

    /** A new machine with these words from place 0 on. */
    static SlotCore machine(int... words) {
        SlotCore x = new SlotCore();
        for (int n = 0; n < words.length; n++) {
            x.put(4 * n, words[n]);
        }
        return x;
    }

    /** A new machine with these words from an address on, about to do the first of them. */
    static SlotCore at(int address, int... words) {
        SlotCore x = new SlotCore();
        for (int n = 0; n < words.length; n++) {
            x.put((address & 0x1FFFFFFF) + 4 * n, words[n]);
        }
        x.go(address);
        return x;
    }

    /** A new machine that has S = s in register 1 and T = t in register 2. */
    static SlotCore two(int s, int t, int... words) {
        SlotCore x = machine(words);
        x.set(1, s);
        x.set(2, t);
        return x;
    }

    static int code(SlotCore x) {
        return x.look(3) >> 2 & 31;
    }
}
