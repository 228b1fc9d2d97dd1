/** The edges of the registers: the first and the last, and register 0, which stays 0 whatever is done to it. */
public final class RegisterEdgesTest {
    private static final int[] EDGES = {0, 1, -1, Integer.MAX_VALUE, Integer.MIN_VALUE};
    private static final int[] GIVE_D = {0, 2, 3, 4, 6, 7, 9, 16, 18, 32, 33, 34, 35, 36, 37, 38, 39, 42, 43};

    public static void main(String[] args) {
        allAreZeroAtFirst();
        setTakesEveryValue();
        setOfZero();
        setChangesOneAlone();
        resultsForZero();
        numbersForZero();
        loadsForZero();
        exceptionsForZero();
        zeroAsSource();
        sourcesFromFirstToLast();
        lastRegisters();
        highAndLowAreBesides();
        registerWithoutTheLoad();
        Check.end();
    }

    private static void allAreZeroAtFirst() {
        SlotCore x = new SlotCore();
        for (int k = 0; k < 34; k++) {
            Check.is("register " + k + " at first", x.register(k), 0);
            Check.is("set " + k + " tells that", x.set(k, 0), 0);
        }
    }

    private static void setTakesEveryValue() {
        for (int k = 1; k < 34; k++) {
            SlotCore x = new SlotCore();
            int before = 0;
            for (int v : EDGES) {
                Check.is("set " + k + " to " + v, x.set(k, v), before);
                Check.is("register " + k, x.register(k), v);
                before = v;
            }
        }
    }

    /** "0 stays 0": set answers what it was, and that is 0 each time. */
    private static void setOfZero() {
        SlotCore x = new SlotCore();
        for (int v : EDGES) {
            Check.is("set 0 to " + v, x.set(0, v), 0);
            Check.is("register 0", x.register(0), 0);
        }
        Check.same("set 0 changes nothing", x, new SlotCore());
    }

    private static void setChangesOneAlone() {
        for (int k = 0; k < 34; k++) {
            SlotCore x = new SlotCore();
            x.set(k, -5);
            for (int other = 0; other < 34; other++) {
                Check.is("set " + k + ": register " + other, x.register(other), other == k && k > 0 ? -5 : 0);
            }
            Check.looks("set " + k, x, 0, 4, 0, 0, 0, 0, 0, SlotCore.NONE, 0, 0, 0);
        }
    }

    /** A machine on which nothing comes out as 0. */
    private static SlotCore full(int w) {
        SlotCore x = Code.at(64, w, Code.k(37, 0, 0, 5), Code.k(33, 0, 0, 6));
        x.put(512, 0x81828384);
        for (int k = 1; k < 34; k++) {
            x.set(k, 512);
        }
        x.set(1, 512);
        x.set(2, 77);
        return x;
    }

    private static void zeroStays(int w) {
        String what = "0 stays 0 by " + Integer.toHexString(w);
        SlotCore x = full(w);
        Check.is(what + ": step", x.step(), 0);
        Check.is(what, x.register(0), 0);
        x.go(68);
        x.run(2);
        Check.is(what + ": read at once", x.register(5), 0);
        Check.is(what + ": read then", x.register(6), 0);
    }

    private static void resultsForZero() {
        for (int k : GIVE_D) {
            zeroStays(Code.k(k, 1, 2, 0, 3));
        }
        zeroStays(Code.k(42, 2, 1, 0));
        zeroStays(Code.k(43, 2, 1, 0));
    }

    private static void numbersForZero() {
        for (int order = 8; order < 16; order++) {
            zeroStays(Code.i(order, 1, 0, 0x7F0F));
        }
    }

    /** A load for 0 waits as others do, and comes to nothing. */
    private static void loadsForZero() {
        for (int order = 32; order < 39; order++) {
            loadForZero(Code.i(order, 1, 0, 0));
        }
        loadForZero(Code.from(0, 12));
    }

    private static void loadForZero(int w) {
        String what = "a load for 0 by " + Integer.toHexString(w);
        SlotCore x = full(w);
        x.status(0x8000);
        Check.is(what, x.step(), 0);
        Check.is(what + " waits", x.look(7), 0);
        Check.is(what + " has a value", x.look(8) == 0 ? 0 : 1, 1);
        x.step();
        Check.is(what + " is read at once", x.register(5), 0);
        Check.is(what + " has come", x.look(7), SlotCore.NONE);
        Check.is(what + ": 0 stays 0", x.register(0), 0);
        x.step();
        Check.is(what + " is read then", x.register(6), 0);
    }

    /** What would go nowhere comes to its exception all the same. */
    private static void exceptionsForZero() {
        exceptionForZero(Code.k(32, 1, 2, 0), Integer.MAX_VALUE, 1, 12);
        exceptionForZero(Code.k(34, 1, 2, 0), Integer.MIN_VALUE, 1, 12);
        exceptionForZero(Code.i(8, 1, 0, 1), Integer.MAX_VALUE, 0, 12);
        exceptionForZero(Code.i(33, 1, 0, 0), 1, 0, 4);
        exceptionForZero(Code.i(35, 1, 0, 0), 2, 0, 4);
        for (int order = 32; order < 39; order++) {
            exceptionForZero(Code.i(order, 1, 0, 0), 4096, 0, 7);
        }
    }

    private static void exceptionForZero(int w, int s, int t, int code) {
        String what = "for 0: " + Integer.toHexString(w);
        SlotCore x = full(w);
        x.set(1, s);
        x.set(2, t);
        Check.is(what, x.step(), 1);
        Check.is(what + ": code", Code.code(x), code);
        Check.is(what + ": none waits", x.look(7), SlotCore.NONE);
        Check.is(what + ": 0 stays 0", x.register(0), 0);
    }

    private static void zeroAsSource() {
        SlotCore x = full(Code.k(34, 0, 2, 7));
        x.set(0, 99);
        x.step();
        Check.is("0 - T", x.register(7), -77);
        SlotCore y = full(Code.i(43, 1, 0, 0));
        y.set(0, 99);
        y.step();
        Check.is("a store of 0", y.word(512), 0);
        SlotCore z = full(Code.i(4, 0, 3, 9));
        z.set(3, 0);
        z.set(0, 99);
        z.step();
        Check.is("0 is 0", z.look(1), 68 + 36);
    }

    /** S, T and D are five bits each: registers 0 .. 31. */
    private static void sourcesFromFirstToLast() {
        for (int s = 0; s < 32; s++) {
            for (int t = 0; t < 32; t++) {
                int d = (s * 7 + t * 3) % 32;
                SlotCore x = Code.at(64, Code.k(33, s, t, d));
                for (int k = 0; k < 34; k++) {
                    x.set(k, 1 << k % 32);
                }
                x.step();
                int want = (s == 0 ? 0 : 1 << s) + (t == 0 ? 0 : 1 << t);
                Check.is(s + " and " + t + " to " + d, x.register(d), d == 0 ? 0 : want);
                Check.is(s + " and " + t + ": HIGH", x.register(32), 1);
                Check.is(s + " and " + t + ": LOW", x.register(33), 2);
            }
        }
    }

    private static void lastRegisters() {
        SlotCore x = Code.at(64, Code.i(9, 31, 31, 1), Code.i(35, 0, 31, 512), Code.k(33, 31, 31, 30), Code.k(0, 0, 31, 31, 31));
        x.set(31, 5);
        x.put(512, 7);
        x.step();
        Check.is("a number to 31", x.register(31), 6);
        x.step();
        Check.is("a load for 31", x.look(7), 31);
        x.step();
        Check.is("31 came", x.register(31), 7);
        Check.is("but not for the one ahead", x.register(30), 12);
        x.step();
        Check.is("31 shifted by 31", x.register(31), 0x80000000);
    }

    /** 32 is HIGH and 33 LOW for set and register; no instruction's S, T or D is one of them. */
    private static void highAndLowAreBesides() {
        SlotCore x = new SlotCore();
        x.set(32, 111);
        x.set(33, 222);
        Check.is("0 beside HIGH", x.register(0), 0);
        Check.is("1 beside LOW", x.register(1), 0);
        Check.is("31 ahead of HIGH", x.register(31), 0);
        Check.is("set HIGH again", x.set(32, 0), 111);
        Check.is("LOW stays", x.register(33), 222);
        Check.is("set LOW again", x.set(33, 0), 222);
    }

    /** "Register k (likewise), without the load that waits"; nor does set have to do with it. */
    private static void registerWithoutTheLoad() {
        for (int k = 1; k < 32; k++) {
            SlotCore x = Code.at(64, Code.i(35, 0, k, 512), Code.nothing());
            x.put(512, 99);
            x.set(k, 5);
            x.step();
            Check.is("register " + k + " ahead of its load", x.register(k), 5);
            Check.is("set " + k + " ahead of its load", x.set(k, 6), 5);
            Check.is("register " + k + " then", x.register(k), 6);
            Check.is("the load waits still", x.look(7), k);
            Check.is("its value", x.look(8), 99);
            x.step();
            Check.is("register " + k + " behind its load", x.register(k), 99);
            Check.is("set " + k + " behind its load", x.set(k, 0), 99);
        }
    }
}
