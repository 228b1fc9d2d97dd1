/** Promise 10, step: shifts, sums, bits and comparisons, of registers and with numbers. */
public final class ArithmeticTest {
    private static final int LEAST = Integer.MIN_VALUE;
    private static final int MOST = Integer.MAX_VALUE;

    public static void main(String[] args) {
        shifts();
        sums();
        sumsThatTrap();
        bitsAndComparisons();
        numbers();
        numbersThatTrap();
        registerZero();
        eachRegister();
        Check.end();
    }

    /** S in register 1, T in register 2, D in register 3. */
    private static void gives(int k, int s, int t, int a, int want) {
        SlotCore x = Code.two(s, t, Code.k(k, 1, 2, 3, a));
        x.set(3, 12345);
        Check.is("K " + k + " step", x.step(), 0);
        Check.is("K " + k + " of " + s + ", " + t + ", " + a, x.register(3), want);
        Check.is("PC", x.look(0), 4);
        Check.is("NEXT", x.look(1), 8);
        Check.is("S stays", x.register(1), s);
        Check.is("T stays", x.register(2), t);
        Check.is("no load waits", x.look(7), SlotCore.NONE);
    }

    private static void traps(int k, int s, int t) {
        SlotCore x = Code.two(s, t, Code.k(k, 1, 2, 3));
        x.set(3, 12345);
        Check.is("K " + k + " step", x.step(), 1);
        Check.is("K " + k + " of " + s + ", " + t, Code.code(x), 12);
        Check.is("D stays", x.register(3), 12345);
    }

    /** S in register 1, T is register 3. */
    private static void numberGives(int order, int s, int low, int want) {
        SlotCore x = Code.two(s, 0, Code.i(order, 1, 3, low));
        x.set(3, 12345);
        Check.is("order " + order + " step", x.step(), 0);
        Check.is("order " + order + " of " + s + ", " + low, x.register(3), want);
        Check.is("PC", x.look(0), 4);
        Check.is("no load waits", x.look(7), SlotCore.NONE);
    }

    private static void shifts() {
        for (int a = 0; a < 32; a++) {
            gives(0, -1, 0x89ABCDEF, a, 0x89ABCDEF << a);
            gives(2, -1, 0x89ABCDEF, a, 0x89ABCDEF >>> a);
            gives(3, -1, 0x89ABCDEF, a, 0x89ABCDEF >> a);
            gives(3, -1, 0x79ABCDEF, a, 0x79ABCDEF >> a);
            gives(4, a - 32, 0x89ABCDEF, 9, 0x89ABCDEF << a);
            gives(6, a + 64, 0x89ABCDEF, 9, 0x89ABCDEF >>> a);
            gives(7, a + 1024, 0x89ABCDEF, 9, 0x89ABCDEF >> a);
        }
    }

    private static void sums() {
        for (int k = 32; k < 34; k++) {
            gives(k, 3, 4, 0, 7);
            gives(k, -3, -4, 31, -7);
            gives(k, MOST, LEAST, 0, -1);
            gives(k, MOST - 1, 1, 0, MOST);
            gives(k, LEAST + 1, -1, 0, LEAST);
            gives(k + 2, 3, 4, 0, -1);
            gives(k + 2, -1, MOST, 0, LEAST);
            gives(k + 2, -1, LEAST, 0, MOST);
            gives(k + 2, LEAST, LEAST, 0, 0);
        }
        gives(33, MOST, 1, 0, LEAST);
        gives(33, LEAST, LEAST, 0, 0);
        gives(35, LEAST, 1, 0, MOST);
        gives(35, 0, LEAST, 0, LEAST);
    }

    private static void sumsThatTrap() {
        traps(32, MOST, 1);
        traps(32, MOST, MOST);
        traps(32, LEAST, -1);
        traps(32, LEAST, LEAST);
        traps(34, LEAST, 1);
        traps(34, MOST, -1);
        traps(34, 0, LEAST);
        traps(34, -2, MOST);
    }

    private static void bitsAndComparisons() {
        gives(36, 0xFF00FF00, 0x0FF00FF0, 0, 0x0F000F00);
        gives(37, 0xFF00FF00, 0x0FF00FF0, 0, 0xFFF0FFF0);
        gives(38, 0xFF00FF00, 0x0FF00FF0, 0, 0xF0F0F0F0);
        gives(39, 0xFF00FF00, 0x0FF00FF0, 0, 0x000F000F);
        compares(3, 4, 1, 1);
        compares(4, 4, 0, 0);
        compares(5, 4, 0, 0);
        compares(-1, 0, 1, 0);
        compares(0, -1, 0, 1);
        compares(LEAST, MOST, 1, 0);
        compares(MOST, LEAST, 0, 1);
        compares(-2, -1, 1, 1);
    }

    private static void compares(int s, int t, int withSign, int without) {
        gives(42, s, t, 0, withSign);
        gives(43, s, t, 0, without);
    }

    private static void numbers() {
        for (int order = 8; order < 10; order++) {
            numberGives(order, 5, 7, 12);
            numberGives(order, 5, -7, -2);
            numberGives(order, 0, 0x8000, -32768);
            numberGives(order, MOST - 32767, 32767, MOST);
            numberGives(order, LEAST + 32768, -32768, LEAST);
        }
        numberGives(9, MOST, 1, LEAST);
        numberGives(9, LEAST, -1, MOST);
        numberGives(10, -5, -4, 1);
        numberGives(10, -4, -4, 0);
        numberGives(10, 5, -1, 0);
        numberGives(10, -1, 5, 1);
        numberGives(11, 5, -1, 1);
        numberGives(11, 0x8000, 0x8000, 1);
        numberGives(11, -1, 5, 0);
        numberGives(11, -1, -1, 0);
        numberGives(11, 4, 5, 1);
        numberGives(12, -1, 0x8421, 0x8421);
        numberGives(12, 0x0000FF0F, 0x8421, 0x8401);
        numberGives(13, 0x70000001, 0x8420, 0x70008421);
        numberGives(14, -1, 0x8421, 0xFFFF7BDE);
        numberGives(15, 77, 0x8421, 0x84210000);
        numberGives(15, -1, 1, 65536);
    }

    private static void numbersThatTrap() {
        numberTraps(MOST, 1);
        numberTraps(MOST - 32766, 32767);
        numberTraps(LEAST, -1);
        numberTraps(LEAST + 32767, -32768);
    }

    private static void numberTraps(int s, int low) {
        SlotCore x = Code.two(s, 12345, Code.i(8, 1, 2, low));
        Check.is("order 8 step", x.step(), 1);
        Check.is("order 8 of " + s + ", " + low, Code.code(x), 12);
        Check.is("T stays", x.register(2), 12345);
    }

    private static void registerZero() {
        SlotCore x = Code.two(-1, -1, Code.k(33, 1, 2, 0), Code.i(13, 0, 0, 5), Code.k(37, 0, 0, 1));
        Check.is("results for 0 go nowhere", x.run(3), 0);
        Check.is("0 stays 0", x.register(0), 0);
        Check.is("0 is read as 0", x.register(1), 0);
        SlotCore y = Code.two(Integer.MAX_VALUE, 1, Code.k(32, 1, 2, 0));
        Check.is("a sum for 0 traps all the same", y.step(), 1);
    }

    private static void eachRegister() {
        for (int r = 1; r < 32; r++) {
            SlotCore x = Code.machine(Code.i(9, 0, r, r * 3), Code.k(33, r, r, r), Code.k(0, 0, r, 32 - r, 1));
            x.run(3);
            Check.is("register " + r, x.register(32 - r), r * 12);
        }
    }
}
