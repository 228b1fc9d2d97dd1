/** Promise 10, step: the numbers of order 16, USER, and the stack of modes. */
public final class ControlTest {
    public static void main(String[] args) {
        readsLate();
        writes();
        writesTheOldValue();
        leaves();
        stackOfModes();
        notInUser();
        unknownOnes();
        otherBitsDoNotMatter();
        Check.end();
    }

    private static SlotCore afterFault(int... words) {
        SlotCore x = Code.machine(words);
        x.go(9);
        x.step();
        x.go(0);
        x.lines(5);
        x.status(0xAA24);
        return x;
    }

    private static void readsLate() {
        int cause = 5 << 10 | 4 << 2;
        for (int number = 0; number < 32; number++) {
            int want = number == 12 ? 0xAA24 : number == 13 ? cause : number == 14 ? 9 : number == 8 ? 9 : 0;
            SlotCore x = afterFault(Code.from(3, number), Code.nothing());
            x.set(3, 77);
            Check.is("read " + number, x.step(), 0);
            Check.is("it waits for", x.look(7), 3);
            Check.is("its value", x.look(8), want);
            Check.is("T stays", x.register(3), 77);
            x.lines(0);
            x.step();
            Check.is("T", x.register(3), want);
        }
    }

    private static void writes() {
        for (int number = 0; number < 32; number++) {
            SlotCore x = afterFault(Code.to(3, number));
            x.set(3, 0xFFFFFFFE);
            Check.is("write " + number, x.step(), 0);
            Check.is("STATUS", x.look(2), number == 12 ? 0xFF3E : 0xAA24);
            Check.is("CAUSE", x.look(3), 5 << 10 | 4 << 2 | (number == 13 ? 0x300 : 0));
            Check.is("RETURN", x.look(4), number == 14 ? -2 : 9);
            Check.is("BAD", x.look(5), 9);
            Check.is("lines", x.lines(0), 5);
            Check.is("none waits", x.look(7), SlotCore.NONE);
            Check.is("T stays", x.register(3), -2);
        }
        SlotCore all = afterFault(Code.to(3, 13));
        all.set(3, -1);
        all.step();
        Check.is("of CAUSE bits 8 and 9 alone", all.look(3), 5 << 10 | 4 << 2 | 0x300);
        SlotCore y = afterFault(Code.to(3, 13), Code.to(4, 13), Code.to(0, 13));
        y.set(3, 0x100);
        y.set(4, 0x200);
        y.step();
        Check.is("bit 8", y.look(3) & 0x300, 0x100);
        y.step();
        Check.is("bit 9", y.look(3) & 0x300, 0x200);
        y.step();
        Check.is("neither", y.look(3), 5 << 10 | 4 << 2);
    }

    private static void writesTheOldValue() {
        SlotCore x = Code.machine(Code.i(35, 0, 3, 64), Code.to(3, 14));
        x.put(64, 99);
        x.set(3, 11);
        x.run(2);
        Check.is("RETURN", x.look(4), 11);
        Check.is("the load came", x.register(3), 99);
    }

    private static void leaves() {
        for (int modes = 0; modes < 64; modes++) {
            if ((modes & 2) == 0) {
                SlotCore x = Code.machine(Code.leave());
                x.status(0xC300 | modes);
                Check.is("leave", x.step(), 0);
                Check.is("STATUS of " + modes, x.look(2), 0xC300 | modes & 0x30 | modes >> 2);
                Check.is("PC", x.look(0), 4);
                Check.is("in no slot", x.look(6), 0);
            }
        }
    }

    private static void stackOfModes() {
        for (int modes = 0; modes < 64; modes++) {
            SlotCore x = Code.machine(Code.k(12, 0, 0, 0));
            x.status(0xC300 | modes);
            Check.is("CALL", x.step(), 1);
            Check.is("STATUS of " + modes, x.look(2), 0xC300 | modes << 2 & 0x3C);
        }
    }

    private static void notInUser() {
        for (int w : new int[] {Code.from(3, 12), Code.from(0, 0), Code.to(3, 12), Code.to(3, 14), Code.leave()}) {
            SlotCore x = Code.machine(w);
            x.set(3, 0xFF00);
            x.status(2);
            Check.is("in USER", x.step(), 1);
            Check.is("code", x.look(3), 11 << 2);
            Check.is("STATUS", x.look(2), 8);
            Check.is("RETURN", x.look(4), 0);
            Check.is("none waits", x.look(7), SlotCore.NONE);
            x.go(0);
            Check.is("not in USER now", x.step(), 0);
        }
    }

    private static void unknownOnes() {
        for (int status = 0; status < 4; status += 2) {
            for (int kind = 0; kind < 32; kind++) {
                for (int k = 0; k < 64; k++) {
                    boolean known = kind == 0 || kind == 4 || kind == 16 && k == 16;
                    SlotCore x = Code.machine(16 << 26 | kind << 21 | k);
                    x.status(status);
                    x.step();
                    int want = !known ? 10 : status == 2 ? 11 : 0;
                    Check.is("order 16, " + kind + ", K " + k + ", STATUS " + status, Code.code(x), want);
                    Check.is("exceptions", x.look(10), want == 0 ? 0 : 1);
                }
            }
        }
    }

    private static void otherBitsDoNotMatter() {
        SlotCore x = Code.machine(Code.leave() | 0x1FFFC0, Code.from(3, 12) | 0x7FF, Code.to(4, 14) | 0x7FF);
        x.status(0x34);
        x.set(4, 44);
        Check.is("all are done", x.run(3), 0);
        Check.is("left", x.look(2), 0x3D);
        Check.is("read", x.register(3), 0x3D);
        Check.is("written", x.look(4), 44);
    }
}
