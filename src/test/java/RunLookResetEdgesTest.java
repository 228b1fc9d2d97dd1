/** The edges of run, look, reset and of an object's 512 calls. */
public final class RunLookResetEdgesTest {
    private static final int CALLS = 512;

    public static void main(String[] args) {
        runOfNone();
        runOfOne();
        runOfMost();
        runBesideItsBounds();
        runGoesOnBehindExceptions();
        runWithInterrupts();
        lookChangesNothing();
        lookBesideItsBounds();
        countersCount();
        resetFromEveryState();
        resetKeepsEveryWord();
        resetOfTheLines();
        firstStepBehindReset();
        allOfItsCalls();
        Check.end();
    }

    private static SlotCore loop() {
        return Code.machine(Code.i(9, 1, 1, 1), Code.far(2, 0), Code.nothing());
    }

    /** "So many steps": none. */
    private static void runOfNone() {
        SlotCore x = loop();
        SlotCore y = loop();
        Check.is("run 0", x.run(0), 0);
        Check.same("run 0", x, y);
        x.lines(63);
        x.status(0xFF01);
        y.lines(63);
        y.status(0xFF01);
        Check.is("run 0 with an interrupt due", x.run(0), 0);
        Check.same("run 0 with an interrupt due", x, y);
        SlotCore z = Code.machine(Code.k(12, 0, 0, 0));
        Check.is("run 0 ahead of CALL", z.run(0), 0);
        Check.is("exceptions", z.look(10), 0);
    }

    private static void runOfOne() {
        SlotCore x = loop();
        SlotCore y = loop();
        Check.is("run 1", x.run(1), 0);
        y.step();
        Check.same("run 1 and step", x, y);
        SlotCore z = Code.machine(Code.k(12, 0, 0, 0));
        Check.is("run 1 to an exception", z.run(1), 1);
    }

    private static void runOfMost() {
        SlotCore x = loop();
        Check.is("run 5000", x.run(5000), 0);
        Check.is("steps", x.look(9), 5000);
        Check.is("rounds", x.register(1), 1667);
        SlotCore y = Code.machine(Code.k(12, 0, 0, 0));
        y.put(128, Code.k(12, 0, 0, 0));
        Check.is("run 5000 with exceptions alone", y.run(5000), 5000);
        Check.is("exceptions", y.look(10), 5000);
        Check.is("run 4999", y.run(4999), 4999);
        Check.is("exceptions of both", y.look(10), 9999);
    }

    /** "IllegalArgumentException: n is not 0 .. 5000." */
    private static void runBesideItsBounds() {
        SlotCore x = loop();
        Check.illegalArgument("run -1", () -> x.run(-1));
        Check.illegalArgument("run 5001", () -> x.run(5001));
        Check.same("run beside its bounds", x, loop());
        Check.is("run 5000 then", x.run(5000), 0);
    }

    private static void runGoesOnBehindExceptions() {
        SlotCore x = Code.machine(Code.nothing(), Code.k(12, 0, 0, 0));
        x.put(136, Code.k(13, 0, 0, 0));
        Check.is("three in eight steps: at 4, 136 and 136", x.run(8), 3);
        Check.is("steps", x.look(9), 8);
        Check.is("the first step behind the last", x.look(0), Code.HANDLER);
        Check.is("how many of this run alone", x.run(3), 1);
        Check.is("exceptions in all", x.look(10), 4);
    }

    private static void runWithInterrupts() {
        SlotCore x = new SlotCore();
        x.put(128, Code.leave());
        x.lines(32);
        x.status(0x8001);
        Check.is("every other step", x.run(9), 5);
        Check.is("exceptions and interrupts", x.look(10), 5);
        Check.is("steps", x.look(9), 9);
    }

    private static void lookChangesNothing() {
        SlotCore x = Code.machine(Code.i(35, 0, 5, 0), Code.far(2, 9));
        SlotCore y = Code.machine(Code.i(35, 0, 5, 0), Code.far(2, 9));
        for (int n = 0; n < 3; n++) {
            for (int what = 0; what <= 10; what++) {
                x.look(what);
            }
            for (int k = 0; k < 34; k++) {
                x.register(k);
            }
            x.word(0);
            Check.same("behind looks", x, y);
            Check.is("a step behind looks", x.step(), y.step());
        }
    }

    /** "NoSuchElementException: none of these." */
    private static void lookBesideItsBounds() {
        SlotCore x = new SlotCore();
        Check.noSuchElement("look -1", () -> x.look(-1));
        Check.noSuchElement("look 11", () -> x.look(11));
        Check.looks("all things", x, 0, 4, 0, 0, 0, 0, 0, SlotCore.NONE, 0, 0, 0);
    }

    /** "9 steps, 10 exceptions and interrupts": no other call counts. */
    private static void countersCount() {
        SlotCore x = loop();
        x.put(512, 5);
        x.set(5, 5);
        x.go(0);
        x.status(0xFF00);
        x.lines(63);
        x.run(0);
        Check.is("steps of other calls", x.look(9), 0);
        x.step();
        x.run(4);
        Check.is("steps", x.look(9), 5);
        Check.is("exceptions", x.look(10), 0);
        x.status(0xFF01);
        x.step();
        Check.is("steps with an interrupt", x.look(9), 6);
        Check.is("interrupts", x.look(10), 1);
        x.go(1);
        x.step();
        Check.is("steps with an exception", x.look(9), 7);
        Check.is("exceptions and interrupts", x.look(10), 2);
    }

    private static SlotCore inState(int w) {
        SlotCore x = Code.machine(Code.to(3, 13), Code.far(2, 9), Code.k(13, 0, 0, 0));
        for (int k = 0; k < 34; k++) {
            x.set(k, 0x300 + (k << 12));
        }
        x.run(3);
        x.go(4095);
        x.step();
        x.put(64, w);
        x.go(64);
        x.lines(63);
        x.status(0x3E);
        x.step();
        return x;
    }

    /** "All but memory as at first (the lines, too)." */
    private static void resetFromEveryState() {
        int[] states = {
            Code.nothing(), Code.i(35, 0, 5, 0), Code.i(35, 0, 0, 0), Code.far(3, 9), Code.i(5, 0, 0, 9), Code.k(12, 0, 0, 0),
            Code.leave()};
        for (int w : states) {
            SlotCore x = inState(w);
            Check.is("steps", x.look(9), 5);
            x.reset();
            Check.same("reset behind " + Integer.toHexString(w), x, new SlotCore());
            Check.is("memory", x.word(64), w);
            Check.is("lines", x.lines(0), 0);
        }
    }

    private static void resetKeepsEveryWord() {
        for (int first = 0; first < 4096; first += 512) {
            SlotCore x = new SlotCore();
            for (int place = first; place < first + 512; place += 4) {
                x.put(place, ~place);
            }
            x.reset();
            for (int place = first; place < first + 512; place += 4) {
                Check.is("word " + place, x.word(place), ~place);
            }
            x.reset();
            Check.is("word " + first + " behind two", x.word(first), ~first);
        }
    }

    private static void resetOfTheLines() {
        for (int line = 0; line < 6; line++) {
            SlotCore x = new SlotCore();
            x.lines(1 << line);
            x.reset();
            Check.is("CAUSE", x.look(3), 0);
            x.status(0xFF01);
            Check.is("no interrupt", x.step(), 0);
            Check.is("lines", x.lines(63), 0);
        }
    }

    private static void firstStepBehindReset() {
        SlotCore x = Code.machine(Code.far(2, 9), Code.nothing());
        x.step();
        x.reset();
        Check.is("a jump behind reset is in no slot", x.step(), 0);
        Check.looks("a jump behind reset", x, 4, 36, 0, 0, 0, 0, 1, SlotCore.NONE, 0, 1, 0);
        SlotCore y = Code.machine(Code.leave());
        y.status(2);
        y.reset();
        Check.is("not in USER behind reset", y.step(), 0);
    }

    /** "An object is used for at most 512 calls": its last is as good as its first, after all the steps that there can be. */
    private static void allOfItsCalls() {
        SlotCore x = new SlotCore();
        x.put(0, Code.i(9, 1, 1, 1));
        x.put(4, Code.far(2, 0));
        int calls = 2;
        while (calls < CALLS - 2) {
            Check.is("run 5000", x.run(5000), 0);
            calls++;
        }
        Check.is("steps", x.look(9), 5000 * (CALLS - 4));
        Check.is("rounds", x.register(1), (5000 * (CALLS - 4) + 2) / 3);
    }
}
