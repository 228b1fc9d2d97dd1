/** Promise 10, step: exceptions, interrupts, and words that are no instruction. */
public final class ExceptionTest {
    public static void main(String[] args) {
        callAndBreak();
        unknownOrders();
        unknownKinds();
        addressesOfPc();
        placesOfPc();
        inSlot();
        pcInSlot();
        handlerRuns();
        interrupts();
        interruptGoesAhead();
        interruptInSlot();
        writtenRequests();
        counters();
        Check.end();
    }

    private static void came(SlotCore x, int cause, int where) {
        Check.is("CAUSE", x.look(3), cause);
        Check.is("RETURN", x.look(4), where);
        Check.is("PC", x.look(0), Code.HANDLER);
        Check.is("NEXT", x.look(1), Code.HANDLER + 4);
        Check.is("in no slot", x.look(6), 0);
        Check.is("none waits", x.look(7), SlotCore.NONE);
    }

    private static void callAndBreak() {
        SlotCore x = Code.machine(Code.nothing(), Code.k(12, 1, 2, 3, 4), Code.k(13, 1, 2, 3, 4));
        x.step();
        Check.is("CALL", x.step(), 1);
        came(x, 8 << 2, 4);
        x.go(8);
        Check.is("BREAK", x.step(), 1);
        came(x, 9 << 2, 8);
        Check.is("BAD", x.look(5), 0);
    }

    private static void unknownOrders() {
        int known = 0;
        for (int order = 0; order < 64; order++) {
            boolean is = order <= 16 || order >= 32 && order <= 38 || order >= 40 && order <= 43 || order == 46;
            SlotCore x = Code.machine(order << 26);
            x.step();
            Check.is("order " + order, Code.code(x), is ? 0 : 10);
            Check.is("exceptions", x.look(10), is ? 0 : 1);
            known += is ? 1 : 0;
        }
        Check.is("orders", known, 29);
    }

    private static void unknownKinds() {
        String known = " 0 2 3 4 6 7 8 9 12 13 16 17 18 19 24 25 26 27 32 33 34 35 36 37 38 39 42 43 ";
        for (int k = 0; k < 64; k++) {
            SlotCore x = Code.machine(k);
            x.step();
            int want = k == 12 ? 8 : k == 13 ? 9 : known.contains(" " + k + " ") ? 0 : 10;
            Check.is("K " + k, Code.code(x), want);
        }
        for (int kind = 0; kind < 32; kind++) {
            SlotCore x = Code.machine(Code.i(1, 1, kind, 5), Code.i(1, 1, kind, 5));
            x.step();
            boolean is = kind == 0 || kind == 1 || kind == 16 || kind == 17;
            Check.is("order 1, " + kind, Code.code(x), is ? 0 : 10);
            Check.is("link of " + kind, x.register(31), is && kind >= 16 ? 8 : 0);
            Check.is("slot of " + kind, x.look(6), is ? 1 : 0);
        }
    }

    private static void addressesOfPc() {
        for (int status = 0; status < 4; status += 2) {
            for (int v : new int[] {1, 2, 3, 4095, 4097, 0x80000001, -1, -2}) {
                SlotCore x = new SlotCore();
                x.status(status);
                x.go(v);
                Check.is("at " + v, x.step(), 1);
                came(x, 4 << 2, v);
                Check.is("BAD", x.look(5), v);
            }
        }
        for (int v : new int[] {0x80000000, 0xA0000004, 0xFFFFFFFC, 0x80001000}) {
            SlotCore x = new SlotCore();
            x.status(2);
            x.go(v);
            Check.is("in USER at " + v, x.step(), 1);
            came(x, 4 << 2, v);
            Check.is("BAD", x.look(5), v);
            Check.is("STATUS", x.look(2), 8);
        }
    }

    private static void placesOfPc() {
        for (int v : new int[] {4096, 8192, 0x1FFFFFFC, 0x20001000, 0x80001000, 0xFFFFFFFC}) {
            SlotCore x = new SlotCore();
            x.go(v);
            Check.is("outside at " + v, x.step(), 1);
            came(x, 6 << 2, v);
            Check.is("BAD stays", x.look(5), 0);
        }
        for (int high = 0; high < 8; high++) {
            SlotCore x = new SlotCore();
            x.put(4092, Code.i(9, 0, 1, high + 1));
            x.go((high << 29) + 4092);
            Check.is("inside", x.step(), 0);
            Check.is("done", x.register(1), high + 1);
            Check.is("PC", x.look(0), (high << 29) + 4096);
        }
    }

    private static void inSlot() {
        for (int first : new int[] {Code.i(4, 0, 0, 30), Code.i(5, 0, 0, 30), Code.far(2, 30)}) {
            SlotCore x = Code.machine(Code.nothing(), first, Code.k(12, 0, 0, 0));
            x.run(2);
            Check.is("CALL in a slot", x.step(), 1);
            came(x, 1 << 31 | 8 << 2, 4);
            x.go(8);
            x.step();
            came(x, 8 << 2, 8);
        }
        SlotCore y = Code.machine(Code.i(4, 0, 0, 30), Code.i(1, 0, 5, 30));
        y.run(2);
        came(y, 1 << 31 | 10 << 2, 0);
        SlotCore z = Code.machine(Code.i(4, 0, 0, 30), Code.i(35, 0, 1, 7));
        z.run(2);
        came(z, 1 << 31 | 4 << 2, 0);
        Check.is("BAD", z.look(5), 7);
    }

    private static void pcInSlot() {
        SlotCore x = new SlotCore();
        x.put(4092, Code.i(4, 0, 0, -9));
        x.go(4092);
        Check.is("a branch at the end", x.step(), 0);
        Check.is("its slot is outside", x.step(), 1);
        came(x, 1 << 31 | 6 << 2, 4092);
    }

    private static void handlerRuns() {
        SlotCore x = Code.machine(Code.k(12, 0, 0, 0), Code.i(9, 2, 2, 1));
        x.put(128, Code.from(26, 14));
        x.put(132, Code.nothing());
        x.put(136, Code.i(9, 26, 26, 4));
        x.put(140, Code.k(8, 26, 0, 0));
        x.put(144, Code.leave());
        x.status(0xFF03);
        Check.is("CALL and back", x.run(7), 1);
        Check.is("done behind it", x.register(2), 1);
        Check.is("STATUS", x.look(2), 0xFF03);
        Check.is("PC", x.look(0), 8);
    }

    private static void interrupts() {
        for (int line = 0; line < 6; line++) {
            for (int bit = 0; bit < 8; bit++) {
                SlotCore x = Code.machine(Code.i(9, 0, 1, 1));
                x.lines(1 << line);
                x.status(256 << bit);
                Check.is("not allowed", x.step(), 0);
                x.go(0);
                x.set(1, 0);
                x.status(256 << bit | 1);
                boolean due = bit == line + 2;
                Check.is("line " + line + ", mask " + bit, x.step(), due ? 2 : 0);
                Check.is("done", x.register(1), due ? 0 : 1);
                Check.is("STATUS", x.look(2), 256 << bit | (due ? 4 : 1));
            }
        }
        SlotCore y = Code.machine();
        y.status(0xFF03);
        y.lines(63);
        Check.is("in USER, too", y.step(), 2);
        came(y, 63 << 10, 0);
        Check.is("STATUS", y.look(2), 0xFF0C);
        Check.is("not again", y.step(), 0);
    }

    private static void interruptGoesAhead() {
        SlotCore x = Code.machine(Code.k(12, 0, 0, 0));
        x.status(0x401);
        x.lines(1);
        Check.is("ahead of CALL", x.step(), 2);
        came(x, 1 << 10, 0);
        x.go(3);
        x.status(0x401);
        Check.is("ahead of a bad PC", x.step(), 2);
        came(x, 1 << 10, 3);
        Check.is("BAD stays", x.look(5), 0);
    }

    private static void interruptInSlot() {
        SlotCore x = Code.machine(Code.nothing(), Code.far(2, 30), Code.far(2, 30));
        x.status(0x401);
        x.run(2);
        x.lines(1);
        Check.is("ahead of a branch in a slot", x.step(), 2);
        came(x, 1 << 31 | 1 << 10, 4);
        x.go(0);
        x.status(0x401);
        x.step();
        came(x, 1 << 10, 0);
    }

    private static void writtenRequests() {
        for (int bit = 8; bit < 10; bit++) {
            SlotCore x = Code.machine(Code.to(1, 13), Code.to(2, 12), Code.i(9, 0, 3, 1));
            x.set(1, 1 << bit);
            x.set(2, 1 << bit | 1);
            Check.is("written", x.run(2), 0);
            Check.is("then", x.step(), 2);
            came(x, 1 << bit, 8);
            Check.is("not done", x.register(3), 0);
            x.go(2);
            x.step();
            came(x, 1 << bit | 4 << 2, 2);
        }
    }

    private static void counters() {
        SlotCore x = Code.machine(Code.k(13, 0, 0, 0));
        x.step();
        x.step();
        x.status(0x101);
        x.step();
        x.lines(63);
        x.status(0x401);
        x.step();
        Check.is("steps", x.look(9), 4);
        Check.is("exceptions and interrupts", x.look(10), 2);
    }
}
