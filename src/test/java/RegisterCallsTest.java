/** Promise 5, set, and promise 6, register. */
public final class RegisterCallsTest {
    private static final int[] NO_REGISTERS = {-1, 34, 35, 64, -34, Integer.MAX_VALUE, Integer.MIN_VALUE};

    public static void main(String[] args) {
        everyRegister();
        zeroStaysZero();
        highAndLow();
        beforeTheLoadComes();
        stayWithoutAResult();
        wrongRegisters();
        Check.end();
    }

    private static void everyRegister() {
        SlotCore x = new SlotCore();
        for (int k = 1; k < 34; k++) {
            Check.is("set " + k, x.set(k, -k), 0);
        }
        for (int k = 1; k < 34; k++) {
            Check.is("register " + k, x.register(k), -k);
            Check.is("set again " + k, x.set(k, Integer.MIN_VALUE + k), -k);
            Check.is("register again " + k, x.register(k), Integer.MIN_VALUE + k);
        }
    }

    private static void zeroStaysZero() {
        SlotCore x = Code.machine(Code.i(9, 0, 0, 5));
        Check.is("set 0", x.set(0, 17), 0);
        Check.is("register 0", x.register(0), 0);
        Check.is("set 0 again", x.set(0, 18), 0);
        x.step();
        Check.is("register 0 as a result", x.register(0), 0);
    }

    private static void highAndLow() {
        SlotCore x = Code.machine(Code.k(16, 0, 0, 3), Code.k(18, 0, 0, 4));
        x.set(32, 11);
        x.set(33, 22);
        x.run(2);
        Check.is("32 is HIGH", x.register(3), 11);
        Check.is("33 is LOW", x.register(4), 22);
    }

    private static void beforeTheLoadComes() {
        SlotCore x = Code.machine(Code.i(35, 0, 5, 64), Code.nothing());
        x.put(64, 99);
        x.set(5, 1);
        x.step();
        Check.is("register without the load", x.register(5), 1);
        Check.is("set without the load", x.set(5, 2), 1);
        Check.is("set takes effect at once", x.register(5), 2);
        Check.is("the load waits still", x.look(7), 5);
        x.step();
        Check.is("the load comes all the same", x.register(5), 99);
    }

    private static void stayWithoutAResult() {
        int[] without = {
            Code.i(43, 0, 2, 64), Code.i(4, 0, 0, 5), Code.i(5, 0, 0, 5), Code.far(2, 5), Code.k(8, 0, 0, 0),
            Code.k(17, 0, 0, 1), Code.k(24, 0, 0, 1), Code.k(27, 0, 0, 1), Code.to(0, 14), Code.leave(),
            Code.i(35, 0, 2, 64), Code.k(12, 0, 0, 0)};
        for (int w : without) {
            SlotCore x = Code.machine(Code.i(9, 0, 1, 5), w);
            x.step();
            x.set(1, 77);
            x.step();
            Check.is("stays behind " + Integer.toHexString(w), x.register(1), 77);
        }
    }

    private static void wrongRegisters() {
        SlotCore x = new SlotCore();
        for (int k : NO_REGISTERS) {
            Check.noSuchElement("set " + k, () -> x.set(k, 1));
            Check.noSuchElement("register " + k, () -> x.register(k));
        }
        Check.same("unchanged", x, new SlotCore());
    }
}
