/** Promise 10, step: branches and jumps, one instruction late. */
public final class BranchTest {
    private static final int[] SIGNS = {Integer.MIN_VALUE, -1, 0, 1, Integer.MAX_VALUE};

    public static void main(String[] args) {
        branchesBySign();
        branchesByTwo();
        oneLate();
        links();
        jumps();
        farJumps();
        backwards();
        branchInSlot();
        othersInSlot();
        slotEndsBehindOneInstruction();
        Check.end();
    }

    /** The branch stands at 64; register 1 is s, register 2 is t; register 31 is 5. */
    private static void branches(int w, int s, int t, boolean goes, boolean links) {
        SlotCore x = new SlotCore();
        x.put(64, w);
        x.set(1, s);
        x.set(2, t);
        x.set(31, 5);
        x.go(64);
        String what = "branch " + Integer.toHexString(w) + " of " + s + ", " + t;
        Check.is(what + " step", x.step(), 0);
        Check.is(what + " PC", x.look(0), 68);
        Check.is(what + " NEXT", x.look(1), goes ? 64 + 4 + 4 * (short) w : 72);
        Check.is(what + " in a slot", x.look(6), 1);
        Check.is(what + " link", x.register(31), links ? 72 : 5);
    }

    private static void branchesBySign() {
        for (int s : SIGNS) {
            for (int low : new int[] {3, -3, 0, -32768, 32767}) {
                branches(Code.i(1, 1, 0, low), s, 0, s < 0, false);
                branches(Code.i(1, 1, 1, low), s, 0, s >= 0, false);
                branches(Code.i(1, 1, 16, low), s, 0, s < 0, true);
                branches(Code.i(1, 1, 17, low), s, 0, s >= 0, true);
                branches(Code.i(6, 1, 0, low), s, 0, s <= 0, false);
                branches(Code.i(7, 1, 0, low), s, 0, s > 0, false);
            }
        }
    }

    private static void branchesByTwo() {
        for (int s : SIGNS) {
            for (int t : SIGNS) {
                branches(Code.i(4, 1, 2, 100), s, t, s == t, false);
                branches(Code.i(5, 1, 2, -100), s, t, s != t, false);
                branches(Code.i(6, 1, 2, 100), s, t, s <= 0, false);
                branches(Code.i(7, 1, 2, 100), s, t, s > 0, false);
            }
        }
    }

    private static void oneLate() {
        SlotCore x = Code.machine(Code.i(4, 0, 0, 3), Code.i(9, 1, 1, 1), Code.i(9, 1, 1, 10), Code.nothing(),
            Code.i(9, 1, 1, 100));
        x.run(2);
        Check.is("the slot is done", x.register(1), 1);
        Check.is("PC", x.look(0), 16);
        Check.is("NEXT", x.look(1), 20);
        Check.is("in no slot", x.look(6), 0);
        x.step();
        Check.is("what is between is not", x.register(1), 101);
    }

    private static void links() {
        SlotCore x = Code.machine(Code.i(1, 31, 16, 9));
        x.set(31, -1);
        x.step();
        Check.is("S = 31 is read ahead of the link", x.look(1), 40);
        Check.is("link", x.register(31), 8);
        SlotCore y = Code.machine(Code.i(1, 31, 17, 9));
        y.set(31, -1);
        y.step();
        Check.is("it does not go", y.look(1), 8);
        Check.is("and links", y.register(31), 8);
    }

    private static void jumps() {
        SlotCore x = Code.two(256, 0, Code.k(8, 1, 0, 3), Code.nothing());
        Check.is("jump", x.step(), 0);
        Check.is("NEXT", x.look(1), 256);
        Check.is("in a slot", x.look(6), 1);
        Check.is("no link", x.register(3), 0);
        SlotCore y = Code.two(256, 0, Code.nothing(), Code.k(9, 1, 0, 1));
        y.run(2);
        Check.is("S = D is read first", y.look(1), 256);
        Check.is("link", y.register(1), 12);
        SlotCore z = Code.two(257, 0, Code.k(9, 1, 0, 0), Code.nothing());
        Check.is("anywhere", z.run(2), 0);
        Check.is("link to 0", z.register(0), 0);
        Check.is("it comes to its exception there", z.step(), 1);
        Check.is("code", Code.code(z), 4);
        Check.is("BAD", z.look(5), 257);
        Check.is("RETURN", z.look(4), 257);
    }

    private static void farJumps() {
        SlotCore x = Code.machine(Code.far(2, 0x3FFFFFF));
        x.step();
        Check.is("J", x.look(1), 0x0FFFFFFC);
        Check.is("no link", x.register(31), 0);
        Check.is("in a slot", x.look(6), 1);
        SlotCore y = Code.machine(Code.far(3, 0x123456));
        y.go(0xA0000000);
        y.step();
        Check.is("the highest bits are PC's", y.look(1), 0xA0000000 + 0x123456 * 4);
        Check.is("link", y.register(31), 0xA0000008);
        SlotCore z = Code.machine();
        z.put(4092, Code.far(2, 1));
        z.go(0xE0000FFC);
        z.step();
        Check.is("of PC + 4", z.look(1), 0xE0000004);
    }

    private static void backwards() {
        SlotCore x = Code.machine(Code.i(9, 1, 1, 1), Code.i(5, 1, 2, -2), Code.i(9, 3, 3, 1), Code.k(12, 0, 0, 0));
        x.set(2, 10);
        Check.is("a loop", x.run(31), 1);
        Check.is("rounds", x.register(1), 10);
        Check.is("slots", x.register(3), 10);
        Check.is("CALL behind it", x.look(4), 12);
    }

    private static void branchInSlot() {
        int[] all = {
            Code.k(8, 1, 0, 0), Code.k(9, 1, 0, 4), Code.i(1, 1, 0, 4), Code.i(1, 1, 1, 4), Code.i(1, 1, 16, 4),
            Code.i(1, 1, 17, 4), Code.far(2, 4), Code.far(3, 4), Code.i(4, 1, 1, 4), Code.i(5, 1, 1, 4),
            Code.i(6, 1, 0, 4), Code.i(7, 1, 0, 4)};
        for (int first : all) {
            for (int second : all) {
                SlotCore x = Code.machine(Code.nothing(), first, second);
                x.run(2);
                int link = x.register(31);
                int other = x.register(4);
                Check.is("in a slot", x.look(6), 1);
                Check.is("a branch in a slot", x.step(), 1);
                Check.is("code", x.look(3), 1 << 31 | 10 << 2);
                Check.is("RETURN", x.look(4), 4);
                Check.is("no link", x.register(31), link);
                Check.is("nor there", x.register(4), other);
                Check.is("in no slot", x.look(6), 0);
            }
        }
    }

    private static void othersInSlot() {
        int[] others = {
            Code.k(0, 0, 0, 0), Code.k(7, 0, 0, 0), Code.k(16, 0, 0, 0), Code.k(26, 0, 0, 0), Code.k(32, 0, 0, 0),
            Code.i(8, 0, 3, 5), Code.i(9, 0, 3, 5), Code.i(15, 0, 3, 5), Code.from(3, 12), Code.to(3, 14), Code.leave(),
            Code.i(32, 0, 3, 5), Code.i(43, 0, 3, 64)};
        for (int other : others) {
            SlotCore x = Code.machine(Code.far(2, 20), other);
            Check.is("done in a slot: " + Integer.toHexString(other), x.run(2), 0);
            Check.is("PC", x.look(0), 80);
            Check.is("in no slot", x.look(6), 0);
        }
    }

    private static void slotEndsBehindOneInstruction() {
        SlotCore x = Code.machine(Code.i(5, 0, 0, 5), Code.nothing(), Code.i(4, 0, 0, 5));
        x.run(2);
        Check.is("in no slot", x.look(6), 0);
        Check.is("a branch is done again", x.step(), 0);
        Check.is("NEXT", x.look(1), 32);
    }
}
