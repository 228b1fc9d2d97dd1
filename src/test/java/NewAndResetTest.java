/** Promise 1, a new object, and promise 2, reset. */
public final class NewAndResetTest {
    public static void main(String[] args) {
        asAtFirst("new", new SlotCore());
        for (int place = 0; place < 4096; place += 4) {
            Check.is("new: word " + place, new SlotCore().word(place), 0);
        }
        objectsShareNothing();
        resetKeepsMemoryAlone();
        resetInSlotWithLoad();
        resetOfNew();
        Check.end();
    }

    private static void asAtFirst(String when, SlotCore x) {
        for (int k = 0; k < 34; k++) {
            Check.is(when + ": register " + k, x.register(k), 0);
        }
        int[] want = {0, 4, 0, 0, 0, 0, 0, SlotCore.NONE, 0, 0, 0};
        for (int what = 0; what < want.length; what++) {
            Check.is(when + ": look " + what, x.look(what), want[what]);
        }
        Check.is(when + ": lines", x.lines(0), 0);
    }

    private static void objectsShareNothing() {
        SlotCore one = Code.machine(Code.i(9, 0, 1, 7));
        one.set(5, 5);
        one.lines(63);
        one.step();
        asAtFirst("beside another", new SlotCore());
        Check.is("beside another: memory", new SlotCore().word(0), 0);
    }

    private static void resetKeepsMemoryAlone() {
        SlotCore x = Code.machine(Code.i(8, 1, 1, 1));
        for (int k = 0; k < 34; k++) {
            x.set(k, k + 100);
        }
        x.put(4092, -5);
        x.set(1, 2147483647);
        x.status(-1);
        x.lines(63);
        Check.is("an interrupt", x.step(), 2);
        x.go(6);
        x.status(0);
        Check.is("a bad address", x.step(), 1);
        x.status(-1);
        x.reset();
        asAtFirst("reset", x);
        Check.is("reset: word 0", x.word(0), Code.i(8, 1, 1, 1));
        Check.is("reset: word 4092", x.word(4092), -5);
    }

    private static void resetInSlotWithLoad() {
        SlotCore x = Code.machine(Code.to(1, 13), Code.i(35, 0, 3, 0), Code.i(4, 0, 0, 4));
        x.set(1, 0x300);
        x.run(2);
        Check.is("a load waits", x.look(7), 3);
        x.reset();
        asAtFirst("reset with a load", x);
        x.go(8);
        x.step();
        Check.is("in a slot", x.look(6), 1);
        x.reset();
        asAtFirst("reset in a slot", x);
        Check.is("goes on at 0", x.step(), 0);
        Check.is("PC behind that", x.look(0), 4);
    }

    private static void resetOfNew() {
        SlotCore x = new SlotCore();
        x.reset();
        x.reset();
        asAtFirst("reset of a new object", x);
    }
}
