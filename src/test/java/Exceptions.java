/** Brings a machine to any exception that there is, for tests. */
final class Exceptions {
    /** All codes; 0 is an interrupt. */
    static final int[] CODES = {0, 4, 5, 6, 7, 8, 9, 10, 11, 12};
    /** Where the instruction stands that comes to it. */
    static final int PLACE = 1024;

    private Exceptions() {
    }

    /** The instruction; registers 27 and 28 are as ready has made them. */
    static int word(int code) {
        switch (code) {
            case 4: return Code.i(35, 0, 26, 2);
            case 5: return Code.i(43, 0, 26, 2);
            case 7: return Code.i(35, 27, 26, 0);
            case 8: return Code.k(12, 0, 0, 0);
            case 9: return Code.k(13, 0, 0, 0);
            case 10: return -1;
            case 11: return Code.leave();
            case 12: return Code.k(32, 28, 28, 26);
            default: return Code.nothing();
        }
    }

    /** All but where it goes on: what makes the next step come to that code. */
    static void ready(SlotCore x, int code) {
        x.set(27, 4096);
        x.set(28, Integer.MAX_VALUE);
        x.lines(code == 0 ? 32 : 0);
        x.status(code == 0 ? 0x8001 : code == 11 ? 2 : 0);
    }

    static void bring(SlotCore x, int code) {
        x.put(PLACE, word(code));
        ready(x, code);
        x.go(code == 6 ? 4096 : PLACE);
        Check.is("a step to code " + code, x.step(), code == 0 ? 2 : 1);
    }
}
