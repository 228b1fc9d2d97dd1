import java.util.NoSuchElementException;

/** Compares answers with those that are due, counts the wrong ones and ends a test with its exit code. */
final class Check {
    /** A call that is looked at for what it throws. */
    interface Call {
        int answer();
    }

    private static int looked = 0;
    private static int wrong = 0;

    private Check() {
    }

    static void is(String what, long got, long want) {
        looked++;
        if (got != want) {
            wrong++;
            System.out.println(what + ": answered " + got + ", due is " + want);
        }
    }

    static void noSuchElement(String what, Call call) {
        is(what + " throws NoSuchElementException", thrown(call) == NoSuchElementException.class ? 1 : 0, 1);
    }

    static void illegalArgument(String what, Call call) {
        is(what + " throws IllegalArgumentException", thrown(call) == IllegalArgumentException.class ? 1 : 0, 1);
    }

    private static Class<?> thrown(Call call) {
        try {
            call.answer();
            return null;
        } catch (RuntimeException e) {
            return e.getClass();
        }
    }

    /** All that can be seen of a machine but its memory; what = 0 .. 44. */
    static int seen(SlotCore x, int what) {
        return what < 34 ? x.register(what) : x.look(what - 34);
    }

    static final int SEEN = 45;

    /** What look answers for 0, 1, 2 and so on. */
    static void looks(String what, SlotCore x, int... want) {
        for (int n = 0; n < want.length; n++) {
            is(what + ": look " + n, x.look(n), want[n]);
        }
    }

    /** That two machines cannot be told apart but by their memory. */
    static void same(String what, SlotCore x, SlotCore y) {
        for (int n = 0; n < SEEN; n++) {
            is(what + ": " + (n < 34 ? "register " + n : "look " + (n - 34)), seen(x, n), seen(y, n));
        }
    }

    static void end() {
        if (looked == 0) {
            System.out.println("nothing was looked at");
        }
        System.exit(wrong == 0 && looked > 0 ? 0 : 1);
    }
}
