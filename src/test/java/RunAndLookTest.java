/** Promise 11, run, and promise 12, look. */
public final class RunAndLookTest {
    public static void main(String[] args) {
        runCounts();
        runIsManySteps();
        wrongRuns();
        lookAtEach();
        wrongLooks();
        Check.end();
    }

    private static void runCounts() {
        SlotCore x = Code.machine(Code.k(12, 0, 0, 0));
        Check.is("run 0", x.run(0), 0);
        Check.is("steps of none", x.look(9), 0);
        Check.is("run 1", x.run(1), 1);
        x.put(128, Code.k(13, 0, 0, 0));
        Check.is("run 5000", x.run(5000), 5000);
        Check.is("steps", x.look(9), 5001);
        Check.is("exceptions", x.look(10), 5001);
        x.put(128, 0);
        Check.is("behind 992 words memory ends", x.run(993), 1);
        Check.is("that came last", Code.code(x), 6);
        x.go(0);
        x.status(0x401);
        x.lines(1);
        Check.is("an interrupt counts", x.run(3), 1);
        Check.is("steps with interrupts", x.look(9), 5997);
        Check.is("exceptions and interrupts", x.look(10), 5003);
    }

    private static void runIsManySteps() {
        int[] program = {
            Code.i(9, 1, 1, 1), Code.i(35, 1, 2, 3), Code.k(33, 1, 2, 3), Code.i(5, 1, 4, -4), Code.k(38, 3, 5, 5),
            Code.k(12, 0, 0, 0)};
        SlotCore one = Code.machine(program);
        SlotCore other = Code.machine(program);
        one.set(4, 50);
        other.set(4, 50);
        int came = 0;
        for (int n = 0; n < 200; n++) {
            came += one.step() == 0 ? 0 : 1;
        }
        Check.is("run 200", other.run(200), came);
        Check.same("run and steps", other, one);
    }

    private static void wrongRuns() {
        SlotCore x = new SlotCore();
        for (int n : new int[] {-1, 5001, -5000, Integer.MAX_VALUE, Integer.MIN_VALUE}) {
            Check.illegalArgument("run " + n, () -> x.run(n));
        }
        Check.same("unchanged", x, new SlotCore());
    }

    private static void lookAtEach() {
        SlotCore x = Code.machine(Code.i(33, 0, 5, 63), Code.nothing(), Code.i(35, 0, 6, 68), Code.i(2, 0, 0, 5));
        x.put(68, -9);
        x.go(0);
        Check.is("a bad load", x.step(), 1);
        x.go(8);
        x.status(0x134);
        x.lines(3);
        Check.looks("each", x, 8, 12, 0x134, 3 << 10 | 16, 0, 63, 0, SlotCore.NONE, 0, 1, 1);
        x.step();
        Check.looks("each", x, 12, 16, 0x134, 3 << 10 | 16, 0, 63, 0, 6, -9, 2, 1);
        x.step();
        Check.looks("each", x, 16, 20, 0x134, 3 << 10 | 16, 0, 63, 1, SlotCore.NONE, 0, 3, 1);
        x.put(16, -1);
        x.step();
        Check.looks("each", x, Code.HANDLER, Code.HANDLER + 4, 0x110, 1 << 31 | 3 << 10 | 40, 12, 63, 0, SlotCore.NONE, 0, 4, 2);
    }

    private static void wrongLooks() {
        SlotCore x = new SlotCore();
        for (int what : new int[] {-1, 11, 12, 100, Integer.MAX_VALUE, Integer.MIN_VALUE}) {
            Check.noSuchElement("look " + what, () -> x.look(what));
        }
    }
}
