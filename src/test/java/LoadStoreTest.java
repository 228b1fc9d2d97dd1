/** Promise 10, step: loads and stores of bytes, halves, words and pieces of words, and their exceptions. */
public final class LoadStoreTest {
    private static final int OLD = 0xA1A2A3A4;
    private static final int WORD = 0x81028384;

    public static void main(String[] args) {
        loads();
        loadedPieces();
        stores();
        storedPieces();
        everyBit();
        addresses();
        badAddresses();
        user();
        outside();
        storesTakeTheOldValue();
        Check.end();
    }

    private static void loadGives(int order, int offset, int want) {
        SlotCore x = Code.two(512, OLD, Code.i(order, 1, 2, offset - 4), Code.nothing());
        x.put(508, WORD);
        Check.is("load " + order + " step", x.step(), 0);
        Check.is("load " + order + " waits for", x.look(7), 2);
        Check.is("load " + order + " at " + offset, x.look(8), want);
        Check.is("T has not got it", x.register(2), OLD);
        x.step();
        Check.is("T has got it", x.register(2), want);
        Check.is("none waits", x.look(7), SlotCore.NONE);
        Check.is("memory stays", x.word(508), WORD);
    }

    private static void loads() {
        loadGives(32, 0, 0xFFFFFF81);
        loadGives(32, 1, 0x02);
        loadGives(32, 2, 0xFFFFFF83);
        loadGives(32, 3, 0xFFFFFF84);
        loadGives(36, 0, 0x81);
        loadGives(36, 1, 0x02);
        loadGives(36, 2, 0x83);
        loadGives(36, 3, 0x84);
        loadGives(33, 0, 0xFFFF8102);
        loadGives(33, 2, 0xFFFF8384);
        loadGives(37, 0, 0x8102);
        loadGives(37, 2, 0x8384);
        loadGives(35, 0, WORD);
    }

    private static void loadedPieces() {
        loadGives(34, 0, WORD);
        loadGives(34, 1, 0x028384A4);
        loadGives(34, 2, 0x8384A3A4);
        loadGives(34, 3, 0x84A2A3A4);
        loadGives(38, 0, 0xA1A2A381);
        loadGives(38, 1, 0xA1A28102);
        loadGives(38, 2, 0xA1810283);
        loadGives(38, 3, WORD);
    }

    private static void storeGives(int order, int offset, int want) {
        SlotCore x = Code.two(512, OLD, Code.i(order, 1, 2, offset - 4));
        x.put(504, 7);
        x.put(508, WORD);
        x.put(512, 7);
        Check.is("store " + order + " step", x.step(), 0);
        Check.is("store " + order + " at " + offset, x.word(508), want);
        Check.is("the word ahead stays", x.word(504), 7);
        Check.is("the word behind stays", x.word(512), 7);
        Check.is("T stays", x.register(2), OLD);
        Check.is("none waits", x.look(7), SlotCore.NONE);
    }

    private static void stores() {
        storeGives(40, 0, 0xA4028384);
        storeGives(40, 1, 0x81A48384);
        storeGives(40, 2, 0x8102A484);
        storeGives(40, 3, 0x810283A4);
        storeGives(41, 0, 0xA3A48384);
        storeGives(41, 2, 0x8102A3A4);
        storeGives(43, 0, OLD);
    }

    private static void storedPieces() {
        storeGives(42, 0, OLD);
        storeGives(42, 1, 0x81A1A2A3);
        storeGives(42, 2, 0x8102A1A2);
        storeGives(42, 3, 0x810283A1);
        storeGives(46, 0, 0xA4028384);
        storeGives(46, 1, 0xA3A48384);
        storeGives(46, 2, 0xA2A3A484);
        storeGives(46, 3, OLD);
    }

    private static void everyBit() {
        int[] bytes = {8, 8, 8, 8};
        int[] halves = {16, 0, 16, 0};
        int[] words = {32, 0, 0, 0};
        int[] toEnd = {32, 24, 16, 8};
        int[] fromStart = {8, 16, 24, 32};
        int[][] loads = {bytes, halves, toEnd, words, bytes, halves, fromStart};
        int[][] stores = {bytes, halves, toEnd, words, null, null, fromStart};
        for (int n = 0; n < 7; n++) {
            for (int offset = 0; offset < 4; offset++) {
                if (loads[n][offset] > 0) {
                    boolean signed = n < 2;
                    Check.is("bits of load " + n, bitsLoaded(32 + n, offset), signed ? 32 : loads[n][offset]);
                }
                if (stores[n] != null && stores[n][offset] > 0) {
                    Check.is("bits of store " + n, bitsStored(40 + n, offset, -1, 0), stores[n][offset]);
                    Check.is("bits left by store " + n, bitsStored(40 + n, offset, 0, -1), 32 - stores[n][offset]);
                }
            }
        }
    }

    private static int bitsLoaded(int order, int offset) {
        SlotCore x = Code.two(508, 0, Code.i(order, 1, 2, offset));
        x.put(508, -1);
        x.step();
        return Integer.bitCount(x.look(8));
    }

    private static int bitsStored(int order, int offset, int t, int word) {
        SlotCore x = Code.two(508, t, Code.i(order, 1, 2, offset));
        x.put(508, word);
        x.step();
        return Integer.bitCount(x.word(508));
    }

    private static void addresses() {
        for (int high : new int[] {0, 0x20000000, 0x40000000, 0x60000000, 0x80000000, 0xA0000000, 0xC0000000, 0xE0000000}) {
            SlotCore x = Code.two(high + 4092, 77, Code.i(43, 1, 2, 0), Code.i(35, 1, 3, 0), Code.nothing());
            Check.is("the place is the lowest 29 bits", x.run(3), 0);
            Check.is("stored", x.word(4092), 77);
            Check.is("loaded", x.register(3), 77);
        }
        SlotCore y = Code.two(0, 0, Code.i(36, 1, 3, -1));
        Check.is("below 0 is not in memory", y.step(), 1);
        Check.is("code", Code.code(y), 7);
    }

    private static void faults(int order, int address, int status, int code) {
        SlotCore x = Code.two(address, 77, Code.i(order, 1, 2, 0));
        x.put(4092, 5);
        x.status(status);
        boolean told = code == 4 || code == 5;
        String what = "order " + order + " at " + address;
        Check.is(what + " step", x.step(), code < 0 ? 0 : 1);
        Check.is(what + " code", Code.code(x), code < 0 ? 0 : code);
        Check.is(what + " BAD", x.look(5), told ? address : 0);
        Check.is(what + " T", x.register(2), 77);
        if (code >= 0) {
            Check.is(what + " memory", x.word(0) ^ x.word(4092), Code.i(order, 1, 2, 0) ^ 5);
            Check.is(what + " none waits", x.look(7), SlotCore.NONE);
        }
    }

    private static void badAddresses() {
        for (int low = 0; low < 4; low++) {
            for (int base : new int[] {4092, 4096, 0x1FFFFFFC, 0x80000FFC}) {
                boolean in = (base & 0x1FFFFFFF) < 4096;
                for (int order : new int[] {32, 36, 34, 38, 40, 42, 46}) {
                    faults(order, base + low, 0, in ? -1 : 7);
                }
                for (int order : new int[] {33, 37}) {
                    faults(order, base + low, 0, (low & 1) != 0 ? 4 : in ? -1 : 7);
                }
                faults(35, base + low, 0, low != 0 ? 4 : in ? -1 : 7);
                faults(41, base + low, 0, (low & 1) != 0 ? 5 : in ? -1 : 7);
                faults(43, base + low, 0, low != 0 ? 5 : in ? -1 : 7);
            }
        }
    }

    private static void user() {
        for (int order = 32; order < 39; order++) {
            faults(order, 0x80000FFC, 2, 4);
            faults(order, 0xFFFFFFFC, 2, 4);
            faults(order, 0xFFFFFFFF, 2, 4);
            faults(order, 0x60000FFC, 2, -1);
            faults(order, 0x7FFFFFFC, 2, 7);
            faults(order, 0x80000FFC, 0x3C, -1);
        }
        for (int order : new int[] {40, 41, 42, 43, 46}) {
            faults(order, 0x80000FFC, 2, 5);
            faults(order, 0xFFFFFFFC, 2, 5);
            faults(order, 0xFFFFFFFF, 2, 5);
            faults(order, 0x60000FFC, 2, -1);
            faults(order, 0x7FFFFFFC, 2, 7);
            faults(order, 0x80000FFC, 0x3C, -1);
        }
    }

    private static void outside() {
        SlotCore x = Code.two(4097, 4096, Code.i(33, 1, 3, 0), Code.i(33, 2, 3, 0));
        x.step();
        Check.is("BAD", x.look(5), 4097);
        x.go(4);
        x.step();
        Check.is("outside memory", Code.code(x), 7);
        Check.is("BAD stays", x.look(5), 4097);
    }

    private static void storesTakeTheOldValue() {
        SlotCore x = Code.two(512, OLD, Code.i(35, 1, 2, 0), Code.i(43, 1, 2, 4));
        x.put(512, WORD);
        x.run(2);
        Check.is("stored is what T had", x.word(516), OLD);
        Check.is("the load came", x.register(2), WORD);
    }
}
