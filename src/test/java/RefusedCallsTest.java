import java.util.ArrayList;
import java.util.List;

/**
 * "NoSuchElementException: there is no such place, register or thing. IllegalArgumentException as told. Such a call
 * changes nothing." Every refused call, in states of every kind, with all that can be seen looked at behind it.
 */
public final class RefusedCallsTest {
    private static final int FILLED = 1020;
    private static final int WORDS_AN_OBJECT = 256;
    private static final int STEPS_BEHIND = 4;

    /** A state, made as often as an object's 512 calls ask for. */
    private interface State {
        SlotCore made();
    }

    private interface Call {
        int on(SlotCore x);
    }

    private record Refused(String name, boolean isNoSuchElement, Call call) {
    }

    private final List<Refused> refused = new ArrayList<>();

    public static void main(String[] args) {
        RefusedCallsTest test = new RefusedCallsTest();
        test.tell();
        test.inState("a new object", SlotCore::new);
        test.inState("a load waits", RefusedCallsTest::loadWaits);
        test.inState("a load for 0 waits", RefusedCallsTest::loadForZeroWaits);
        test.inState("in a slot", RefusedCallsTest::inSlot);
        test.inState("behind an exception", RefusedCallsTest::behindException);
        test.inState("an interrupt is due", RefusedCallsTest::interruptIsDue);
        takenBesideTheRefused();
        Check.end();
    }

    private void tell() {
        int[] noPlaces = {
            -1, -2, -3, -4, 1, 2, 3, 5, 4091, 4093, 4094, 4095, 4096, 4097, 4100, 8192, 0x1FFFFFFC, 0x20000000,
            Integer.MAX_VALUE, Integer.MAX_VALUE - 3, Integer.MIN_VALUE};
        for (int place : noPlaces) {
            refused.add(new Refused("put " + place, true, x -> x.put(place, -77)));
            refused.add(new Refused("word " + place, true, x -> x.word(place)));
        }
        for (int k : new int[] {-1, 34, 35, 64, Integer.MAX_VALUE, Integer.MIN_VALUE}) {
            refused.add(new Refused("set " + k, true, x -> x.set(k, -77)));
            refused.add(new Refused("register " + k, true, x -> x.register(k)));
        }
        for (int lines : new int[] {-1, 64, 65, 128, -64, Integer.MAX_VALUE, Integer.MIN_VALUE}) {
            refused.add(new Refused("lines " + lines, false, x -> x.lines(lines)));
        }
        for (int n : new int[] {-1, 5001, 5002, -5000, Integer.MAX_VALUE, Integer.MIN_VALUE}) {
            refused.add(new Refused("run " + n, false, x -> x.run(n)));
        }
        for (int what : new int[] {-1, 11, 12, Integer.MAX_VALUE, Integer.MIN_VALUE}) {
            refused.add(new Refused("look " + what, true, x -> x.look(what)));
        }
    }

    private void inState(String name, State state) {
        for (Refused each : refused) {
            String what = name + ", " + each.name;
            SlotCore x = made(state, what, each);
            Check.same(what, x, state.made());
            for (int first = 0; first < 1024; first += WORDS_AN_OBJECT) {
                sameMemory(what, made(state, what, each), state.made(), first);
            }
            sameBehind(what, made(state, what, each), state.made());
        }
    }

    private static SlotCore made(State state, String what, Refused each) {
        SlotCore x = state.made();
        if (each.isNoSuchElement) {
            Check.noSuchElement(what, () -> each.call.on(x));
        } else {
            Check.illegalArgument(what, () -> each.call.on(x));
        }
        return x;
    }

    private static void sameMemory(String what, SlotCore x, SlotCore y, int first) {
        for (int n = first; n < first + WORDS_AN_OBJECT; n++) {
            Check.is(what + ": word " + 4 * n, x.word(4 * n), y.word(4 * n));
        }
    }

    /** Nothing that only a later step would show has changed either. */
    private static void sameBehind(String what, SlotCore x, SlotCore y) {
        for (int n = 0; n < STEPS_BEHIND; n++) {
            Check.is(what + ": a step behind it", x.step(), y.step());
            Check.same(what + ": behind a step", x, y);
        }
    }

    /** Nothing is 0 where it need not be: every word from 16 on holds its place, every register its number. */
    private static SlotCore filled() {
        SlotCore x = Code.machine(Code.i(43, 1, 1, 0), Code.i(9, 1, 1, 4), Code.i(5, 1, 2, -3), Code.nothing());
        x.set(1, 16);
        x.set(2, 4096);
        x.run(4 * FILLED);
        for (int k = 1; k < 34; k++) {
            x.set(k, 1000 + k);
        }
        x.put(0, Code.to(3, 13));
        x.put(4, Code.k(9, 4, 0, 5));
        x.put(8, Code.i(35, 0, 6, 3));
        x.set(3, 0x300);
        x.set(4, 128);
        x.lines(21);
        x.go(0);
        x.run(3);
        x.status(0xA934);
        return x;
    }

    private static SlotCore behindException() {
        SlotCore x = filled();
        Check.looks("behind an exception", x, Code.HANDLER, Code.HANDLER + 4, 0xA934, 1 << 31 | 21 << 10 | 0x300 | 4 << 2,
            4, 3, 0, SlotCore.NONE, 0, 4083, 1);
        return x;
    }

    private static SlotCore loadWaits() {
        SlotCore x = filled();
        x.put(128, Code.i(35, 0, 31, 4092));
        x.step();
        Check.is("a load waits", x.look(7), 31);
        Check.is("its value", x.look(8), 4092);
        return x;
    }

    private static SlotCore loadForZeroWaits() {
        SlotCore x = filled();
        x.put(128, Code.i(35, 0, 0, 4092));
        x.step();
        Check.is("a load for 0 waits", x.look(7), 0);
        return x;
    }

    private static SlotCore inSlot() {
        SlotCore x = filled();
        x.put(128, Code.i(4, 0, 0, 9));
        x.step();
        Check.is("in a slot", x.look(6), 1);
        return x;
    }

    private static SlotCore interruptIsDue() {
        SlotCore x = filled();
        x.status(0x0401);
        return x;
    }

    private static void takenBesideTheRefused() {
        SlotCore x = filled();
        Check.is("word of the first place", x.word(0), Code.to(3, 13));
        Check.is("word of the last place", x.word(4092), 4092);
        Check.is("put at the first place", x.put(0, 5), Code.to(3, 13));
        Check.is("put at the last place", x.put(4092, 6), 4092);
        Check.is("the first register", x.register(0), 0);
        Check.is("the last register", x.register(33), 1033);
        Check.is("set of the first register", x.set(0, 5), 0);
        Check.is("set of the last register", x.set(33, 6), 1033);
        Check.is("the least lines", x.lines(0), 21);
        Check.is("the greatest lines", x.lines(63), 0);
        Check.is("the first thing", x.look(0), Code.HANDLER);
        Check.is("the last thing", x.look(10), 1);
        Check.is("the least run", x.run(0), 0);
        Check.is("steps of the least run", x.look(9), 4083);
        x.run(5000);
        Check.is("steps of the greatest run", x.look(9), 9083);
    }
}
