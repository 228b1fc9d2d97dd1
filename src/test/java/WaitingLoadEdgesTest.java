/** The edges of the load that waits: none, one for register 0, one of value 0, one for the register of the next. */
public final class WaitingLoadEdgesTest {
    private static final int OLD = 0xA1A2A3A4;
    private static final int WORD = 0x81828384;
    private static final int WAITING = 0x11121314;
    private static final int[] TO_END = {WORD, 0x82838400, 0x83840000, 0x84000000};
    private static final int[] FROM_START = {0x81, 0x8182, 0x818283, WORD};

    public static void main(String[] args) {
        noneAtFirst();
        firstAndLastRegister();
        valueZeroIsNotNone();
        everyKindOfLoadWaits();
        onlyLoadsWait();
        callsLeaveItWaiting();
        valueIsThatOfTheLoad();
        piecesWithoutOne();
        piecesWithOneForT();
        piecesWithOneForAnother();
        piecesForZero();
        resultsOutlastIt();
        sourcesAreAheadOfIt();
        everyExceptionBringsIt();
        goAndResetDropIt();
        Check.end();
    }

    /** Register 1 is 512, where WORD stands, WAITING behind it; register 2 is OLD. */
    private static SlotCore machine(int... words) {
        SlotCore x = Code.at(64, words);
        x.put(512, WORD);
        x.put(516, WAITING);
        x.set(1, 512);
        x.set(2, OLD);
        return x;
    }

    private static void waits(String what, SlotCore x, int register, int value) {
        Check.is(what + ": for", x.look(7), register);
        Check.is(what + ": value", x.look(8), value);
    }

    /** "7 the register of the load that waits (NONE: none), 8 its value (0: none waits)." */
    private static void noneAtFirst() {
        waits("at first", new SlotCore(), SlotCore.NONE, 0);
        SlotCore x = machine(Code.nothing());
        x.step();
        waits("behind nothing", x, SlotCore.NONE, 0);
        Check.is("the registers", x.register(2), OLD);
    }

    private static void firstAndLastRegister() {
        for (int t = 0; t < 32; t++) {
            SlotCore x = machine(Code.i(35, 1, t, 0), Code.nothing());
            x.step();
            waits("a load for " + t, x, t, WORD);
            x.step();
            waits("behind a load for " + t, x, SlotCore.NONE, 0);
            for (int k = 0; k < 34; k++) {
                int before = k == 1 ? 512 : k == 2 ? OLD : 0;
                Check.is("a load for " + t + ": register " + k, x.register(k), k == t && t > 0 ? WORD : before);
            }
        }
    }

    private static void valueZeroIsNotNone() {
        SlotCore x = machine(Code.i(35, 1, 2, 8), Code.nothing());
        x.step();
        waits("a load of 0", x, 2, 0);
        Check.is("it has not come", x.register(2), OLD);
        x.step();
        waits("it has come", x, SlotCore.NONE, 0);
        Check.is("it has come", x.register(2), 0);
    }

    private static void everyKindOfLoadWaits() {
        int[] want = {0xFFFFFF81, 0xFFFF8182, WORD, WORD, 0x81, 0x8182, 0xA1A2A381};
        for (int n = 0; n < want.length; n++) {
            SlotCore x = machine(Code.i(32 + n, 1, 2, 0), Code.nothing());
            x.step();
            waits("load " + (32 + n), x, 2, want[n]);
            Check.is("load " + (32 + n) + " has not come", x.register(2), OLD);
            x.step();
            Check.is("load " + (32 + n) + " has come", x.register(2), want[n]);
        }
        SlotCore y = machine(Code.from(2, 12), Code.nothing());
        y.status(0x8000);
        y.step();
        waits("a number", y, 2, 0x8000);
        Check.is("it has not come", y.register(2), OLD);
        y.step();
        Check.is("it has come", y.register(2), 0x8000);
    }

    private static void onlyLoadsWait() {
        int[] others = {
            Code.k(33, 1, 1, 3), Code.k(16, 0, 0, 3), Code.k(24, 1, 1, 3), Code.i(9, 0, 3, 5), Code.i(15, 0, 3, 5),
            Code.to(1, 14), Code.leave(), Code.i(40, 1, 2, 64), Code.i(43, 1, 2, 64), Code.i(4, 0, 0, 9), Code.far(3, 9)};
        for (int w : others) {
            SlotCore x = machine(Code.i(35, 1, 31, 0), w);
            x.step();
            waits("a load", x, 31, WORD);
            x.step();
            waits("behind " + Integer.toHexString(w), x, SlotCore.NONE, 0);
        }
    }

    private static void callsLeaveItWaiting() {
        SlotCore x = machine(Code.i(35, 1, 2, 0), Code.nothing());
        x.step();
        x.put(512, 9);
        x.word(512);
        x.set(2, 5);
        x.register(2);
        x.status(0x3C);
        x.lines(63);
        x.run(0);
        x.look(7);
        waits("behind all calls that take no step", x, 2, WORD);
        x.step();
        Check.is("it has come", x.register(2), WORD);
    }

    private static void valueIsThatOfTheLoad() {
        SlotCore x = machine(Code.i(35, 1, 3, 0), Code.i(43, 1, 2, 0), Code.nothing());
        x.run(2);
        Check.is("a store behind the load", x.word(512), OLD);
        Check.is("the load is ahead of it", x.register(3), WORD);
        SlotCore y = machine(Code.i(43, 1, 2, 0), Code.i(35, 1, 3, 0));
        y.run(2);
        waits("a load behind the store", y, 3, OLD);
    }

    private static int highest(int bytes) {
        return bytes == 0 ? 0 : -1 << 32 - 8 * bytes;
    }

    private static int joined34(int offset, int others) {
        return TO_END[offset] | others & ~highest(4 - offset);
    }

    private static int joined38(int offset, int others) {
        return FROM_START[offset] | others & highest(3 - offset);
    }

    private static void pieces(String what, int ahead, int t, int others) {
        for (int offset = 0; offset < 4; offset++) {
            SlotCore x = machine(ahead, Code.i(34, 1, t, offset), Code.nothing());
            x.run(2);
            waits("34 at " + offset + " " + what, x, t, joined34(offset, others));
            x.step();
            Check.is("34 at " + offset + " " + what + ": T", x.register(t), t == 0 ? 0 : joined34(offset, others));
            SlotCore y = machine(ahead, Code.i(38, 1, t, offset), Code.nothing());
            y.run(2);
            waits("38 at " + offset + " " + what, y, t, joined38(offset, others));
            y.step();
            Check.is("38 at " + offset + " " + what + ": T", y.register(t), t == 0 ? 0 : joined38(offset, others));
        }
    }

    /** "The others are what T has." */
    private static void piecesWithoutOne() {
        pieces("with none", Code.nothing(), 2, OLD);
        pieces("behind a result", Code.i(9, 0, 2, 0x7654), 2, 0x7654);
        SlotCore x = machine(Code.i(35, 1, 2, 4), Code.nothing(), Code.i(34, 1, 2, 2));
        x.run(3);
        waits("a load that came before", x, 2, 0x83841314);
    }

    /** "Or the value of the load that waits, if that is for T." */
    private static void piecesWithOneForT() {
        pieces("with a word for T", Code.i(35, 1, 2, 4), 2, WAITING);
        pieces("with a byte for T", Code.i(32, 1, 2, 0), 2, 0xFFFFFF81);
        pieces("with a piece for T", Code.i(38, 1, 2, 4), 2, 0xA1A2A311);
        pieces("with 0 for T", Code.i(35, 1, 2, 8), 2, 0);
        pieces("with a number for T", Code.from(2, 31), 2, 0);
        pieces("with a word for the last", Code.i(35, 1, 31, 4), 31, WAITING);
    }

    private static void piecesWithOneForAnother() {
        pieces("with one for 3", Code.i(35, 1, 3, 4), 2, OLD);
        pieces("with one for 0", Code.i(35, 1, 0, 4), 2, OLD);
        pieces("with one for 31", Code.i(35, 1, 31, 4), 2, OLD);
    }

    /** "Also for 0." */
    private static void piecesForZero() {
        pieces("for 0 with none", Code.nothing(), 0, 0);
        pieces("for 0 with one for 0", Code.i(35, 1, 0, 4), 0, WAITING);
        pieces("for 0 with one for 2", Code.i(35, 1, 2, 4), 0, 0);
        pieces("for 0 behind a result", Code.i(9, 0, 0, 0x7654), 0, 0);
    }

    /** "Then the load that waited ahead of it comes to its register; then what the instruction does to its register does." */
    private static void resultsOutlastIt() {
        int[] forThree = {
            Code.k(33, 1, 0, 3), Code.k(0, 0, 1, 3), Code.i(9, 1, 3, 0), Code.i(13, 1, 3, 0), Code.k(18, 0, 0, 3)};
        for (int w : forThree) {
            SlotCore x = machine(Code.i(35, 1, 3, 0), w);
            x.set(33, 512);
            x.run(2);
            Check.is("a result behind a load", x.register(3), 512);
        }
        int[] links = {Code.far(3, 9), Code.i(1, 0, 17, 9), Code.i(1, 0, 16, 9), Code.k(9, 1, 0, 31)};
        for (int w : links) {
            SlotCore x = machine(Code.i(35, 1, 31, 0), w);
            x.run(2);
            Check.is("a link behind a load", x.register(31), 76);
        }
        SlotCore y = machine(Code.i(35, 1, 3, 0), Code.i(35, 1, 3, 4), Code.nothing());
        y.run(2);
        Check.is("a load behind a load: the first", y.register(3), WORD);
        waits("a load behind a load", y, 3, WAITING);
        y.step();
        Check.is("a load behind a load: the second", y.register(3), WAITING);
    }

    private static void sourcesAreAheadOfIt() {
        SlotCore x = machine(Code.i(35, 1, 2, 0), Code.k(24, 2, 1, 0));
        x.set(2, 3);
        x.run(2);
        Check.is("a product", x.register(33), 1536);
        SlotCore y = machine(Code.i(35, 1, 1, 0), Code.i(34, 1, 1, 2));
        y.run(2);
        waits("a piece for its own S", y, 1, 0x83840000 | WORD & 0xFFFF);
        SlotCore z = machine(Code.i(35, 1, 2, 0), Code.k(8, 2, 0, 0));
        z.run(2);
        Check.is("a jump", z.look(1), OLD);
        SlotCore v = machine(Code.i(35, 1, 2, 0), Code.i(46, 1, 2, 5));
        v.run(2);
        Check.is("a store", v.word(516), 0xA3A41314);
        SlotCore w = machine(Code.i(35, 1, 2, 0), Code.to(2, 14));
        w.run(2);
        Check.is("a number", w.look(4), OLD);
    }

    /** "The load that waited comes to its register", for 0 to none; nothing waits then. */
    private static void everyExceptionBringsIt() {
        for (int code : Exceptions.CODES) {
            for (int t = 0; t < 4; t += 3) {
                SlotCore x = machine();
                Exceptions.ready(x, code);
                int lines = x.lines(0);
                int place = code == 6 ? 4092 : Exceptions.PLACE - 4;
                x.put(place, Code.i(35, 1, t, 0));
                x.put(Exceptions.PLACE, Exceptions.word(code));
                x.go(place);
                x.step();
                x.lines(lines);
                waits("ahead of code " + code, x, t, WORD);
                Check.is("code " + code, x.step(), code == 0 ? 2 : 1);
                Check.is("code " + code, Code.code(x), code);
                waits("behind code " + code, x, SlotCore.NONE, 0);
                Check.is("register 0 behind code " + code, x.register(0), 0);
                Check.is("register 3 behind code " + code, x.register(3), t == 3 ? WORD : 0);
                Check.is("RETURN", x.look(4), place + 4);
            }
        }
    }

    private static void goAndResetDropIt() {
        SlotCore x = machine(Code.i(35, 1, 2, 0), Code.nothing());
        x.step();
        x.go(68);
        waits("go", x, SlotCore.NONE, 0);
        x.step();
        Check.is("it never comes", x.register(2), OLD);
        SlotCore y = machine(Code.i(35, 1, 2, 0), Code.nothing());
        y.step();
        y.reset();
        waits("reset", y, SlotCore.NONE, 0);
        y.step();
        Check.is("it never comes", y.register(2), 0);
    }
}
