/** The edges of STATUS, CAUSE, RETURN, BAD and the lines: each of their bits, and those that they have not. */
public final class StatusAndCauseEdgesTest {
    private static final int STATUS_BITS = 0xFF3F;
    private static final int[] EDGES = {0, 1, -1, Integer.MAX_VALUE, Integer.MIN_VALUE, 0xFFFF00C0, 0x00FF, 0xFF00};

    public static void main(String[] args) {
        allAreZeroAtFirst();
        statusTakesWhatItHas();
        statusChangesNothingElse();
        statusByInstruction();
        causeByInstruction();
        returnByInstruction();
        badAndOthersCannotBeWritten();
        readByInstruction();
        firstAndLastLine();
        linesChangeNothingElse();
        linesAreNotWritten();
        writtenBitsStay();
        codesTakeEachOthersPlace();
        allOfCauseAtOnce();
        Check.end();
    }

    private static void allAreZeroAtFirst() {
        SlotCore x = new SlotCore();
        for (int what = 2; what <= 5; what++) {
            Check.is("look " + what + " at first", x.look(what), 0);
        }
        Check.is("status tells that", x.status(0), 0);
        Check.is("lines tells that", x.lines(0), 0);
    }

    /** "STATUS becomes v (what it has of it): what it was." */
    private static void statusTakesWhatItHas() {
        SlotCore x = new SlotCore();
        int before = 0;
        for (int v : EDGES) {
            Check.is("status " + v, x.status(v), before);
            Check.is("STATUS by " + v, x.look(2), v & STATUS_BITS);
            before = v & STATUS_BITS;
        }
        for (int bit = 0; bit < 32; bit++) {
            boolean has = bit < 6 || bit >= 8 && bit < 16;
            x.status(0);
            Check.is("bit " + bit + " alone: what it was", x.status(1 << bit), 0);
            Check.is("bit " + bit + " alone", x.look(2), has ? 1 << bit : 0);
            x.status(-1);
            Check.is("all but bit " + bit + ": what it was", x.status(~(1 << bit)), STATUS_BITS);
            Check.is("all but bit " + bit, x.look(2), has ? STATUS_BITS - (1 << bit) : STATUS_BITS);
        }
    }

    private static SlotCore full(int... words) {
        SlotCore x = Code.at(64, words);
        x.go(7);
        x.step();
        x.go(64);
        x.lines(42);
        x.set(1, -1);
        return x;
    }

    private static void statusChangesNothingElse() {
        SlotCore x = full();
        SlotCore y = full();
        x.status(-1);
        x.status(0);
        Check.same("status there and back", x, y);
    }

    /** "STATUS and CAUSE only what can be written." */
    private static void statusByInstruction() {
        for (int bit = 0; bit < 32; bit++) {
            SlotCore x = full(Code.to(1, 12), Code.nothing());
            x.set(1, 1 << bit);
            Check.is("STATUS bit " + bit + " written", x.step(), 0);
            Check.is("STATUS bit " + bit, x.look(2), 1 << bit & STATUS_BITS);
        }
        SlotCore y = full(Code.to(1, 12));
        y.step();
        Check.is("STATUS, all bits written", y.look(2), STATUS_BITS);
        SlotCore z = full(Code.to(0, 12));
        z.status(STATUS_BITS - 3);
        z.step();
        Check.is("STATUS, no bits written", z.look(2), 0);
    }

    /** "Of CAUSE bits 8, 9." */
    private static void causeByInstruction() {
        int before = 42 << 10 | 4 << 2;
        for (int bit = 0; bit < 32; bit++) {
            SlotCore x = full(Code.to(1, 13), Code.to(0, 13));
            x.set(1, 1 << bit);
            Check.is("CAUSE bit " + bit + " written", x.step(), 0);
            Check.is("CAUSE bit " + bit, x.look(3), before | (bit == 8 || bit == 9 ? 1 << bit : 0));
            x.step();
            Check.is("CAUSE bit " + bit + " taken away", x.look(3), before);
        }
        SlotCore y = full(Code.to(1, 13), Code.to(0, 13));
        y.step();
        Check.is("CAUSE, all bits written", y.look(3), before | 0x300);
        y.step();
        Check.is("CAUSE, no bits written", y.look(3), before);
    }

    private static void returnByInstruction() {
        for (int v : EDGES) {
            SlotCore x = full(Code.to(1, 14));
            x.set(1, v);
            x.step();
            Check.is("RETURN written as " + v, x.look(4), v);
        }
    }

    /** "BAD and others: nothing." */
    private static void badAndOthersCannotBeWritten() {
        for (int number = 0; number < 32; number++) {
            if (number < 12 || number > 14) {
                SlotCore x = full(Code.to(1, number));
                SlotCore y = full(Code.nothing());
                Check.is("number " + number + " written", x.step(), y.step());
                Check.same("number " + number + " written", x, y);
            }
        }
    }

    /** "12 STATUS, 13 CAUSE, 14 RETURN, 8 BAD, else 0." */
    private static void readByInstruction() {
        for (int number = 0; number < 32; number++) {
            SlotCore x = full(Code.from(2, number), Code.nothing());
            x.status(STATUS_BITS - 3);
            x.set(2, 55);
            int want = number == 12 ? STATUS_BITS - 3 : number == 13 ? 42 << 10 | 4 << 2 : number == 14 || number == 8 ? 7 : 0;
            x.step();
            Check.is("number " + number + " waits for", x.look(7), 2);
            Check.is("number " + number + " waits", x.look(8), want);
            x.step();
            Check.is("number " + number + " has come", x.register(2), want);
        }
    }

    /** "10 .. 15 as the six LINES are." */
    private static void firstAndLastLine() {
        SlotCore x = new SlotCore();
        int before = 0;
        for (int line = 0; line < 6; line++) {
            Check.is("line " + line + " alone: what they were", x.lines(1 << line), before);
            Check.is("line " + line + " alone", x.look(3), 1 << 10 + line);
            before = 1 << line;
        }
        Check.is("all lines", x.lines(63), 32);
        Check.is("all lines in CAUSE", x.look(3), 0xFC00);
        Check.is("no lines", x.lines(0), 63);
        Check.is("no lines in CAUSE", x.look(3), 0);
        Check.illegalArgument("64", () -> x.lines(64));
        Check.illegalArgument("-1", () -> x.lines(-1));
        Check.is("no lines still", x.lines(0), 0);
    }

    private static void linesChangeNothingElse() {
        SlotCore x = full(Code.i(35, 0, 3, 64));
        SlotCore y = full(Code.i(35, 0, 3, 64));
        x.step();
        y.step();
        x.lines(63);
        x.lines(0);
        x.lines(42);
        Check.same("lines there and back", x, y);
    }

    /** Neither an instruction nor an exception, nor status, nor go is what the lines are by. */
    private static void linesAreNotWritten() {
        SlotCore x = full(Code.to(1, 13), Code.to(0, 13), Code.to(1, 12), Code.k(12, 0, 0, 0));
        x.run(2);
        Check.is("CAUSE written as 0", x.look(3), 42 << 10 | 4 << 2);
        x.status(0xFF01);
        Check.is("an interrupt", x.step(), 2);
        x.go(76);
        x.step();
        Check.is("an exception", x.look(3), 42 << 10 | 8 << 2);
        Check.is("lines", x.lines(0), 42);
    }

    /** "8 and 9 as they are written": all that is not writing them or reset leaves them. */
    private static void writtenBitsStay() {
        SlotCore x = full(Code.to(1, 13), Code.leave(), Code.k(13, 0, 0, 0));
        x.run(2);
        Check.is("behind an instruction", x.look(3) & 0x300, 0x300);
        x.step();
        Check.is("behind an exception", x.look(3), 0x300 | 42 << 10 | 9 << 2);
        x.lines(0);
        Check.is("behind lines", x.look(3), 0x300 | 9 << 2);
        x.status(-1);
        Check.is("behind status", x.look(3), 0x300 | 9 << 2);
        Check.is("an interrupt", x.step(), 2);
        Check.is("behind an interrupt", x.look(3), 0x300);
        x.go(0);
        Check.is("behind go", x.look(3), 0x300);
        x.reset();
        Check.is("behind reset", x.look(3), 0);
    }

    /** "Bits 2 .. 6 the code of the latest exception": nothing of the one before stays in it. */
    private static void codesTakeEachOthersPlace() {
        for (int first : Exceptions.CODES) {
            for (int second : Exceptions.CODES) {
                SlotCore x = new SlotCore();
                Exceptions.bring(x, first);
                Check.is("code " + first, x.look(3) & ~0xFC00, first << 2);
                Exceptions.bring(x, second);
                Check.is("code " + second + " behind " + first, x.look(3) & ~0xFC00, second << 2);
                Check.is("exceptions", x.look(10), 2);
            }
        }
    }

    private static void allOfCauseAtOnce() {
        SlotCore x = full(Code.to(1, 13), Code.far(2, 64), Code.i(8, 2, 2, 1));
        x.lines(63);
        x.set(2, Integer.MAX_VALUE);
        x.run(3);
        Check.is("CAUSE", x.look(3), 0x8000FF00 | 12 << 2);
        x.lines(0);
        Check.is("CAUSE without the lines", x.look(3), 0x80000300 | 12 << 2);
    }
}
