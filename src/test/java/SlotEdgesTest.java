/** The edges of PC and NEXT, which wrap around, and of the slot. */
public final class SlotEdgesTest {
    private static final int LEAST = Integer.MIN_VALUE;
    private static final int MOST = Integer.MAX_VALUE;
    /** Each kind of branch and jump; register 1 is -1, register 2 is 1, register 3 is 512. */
    private static final int[] GO = {
        Code.k(8, 3, 0, 0), Code.k(9, 3, 0, 4), Code.i(1, 1, 0, 9), Code.i(1, 2, 1, 9), Code.i(1, 1, 16, 9),
        Code.i(1, 2, 17, 9), Code.far(2, 128), Code.far(3, 128), Code.i(4, 1, 1, 9), Code.i(5, 1, 2, 9),
        Code.i(6, 1, 0, 9), Code.i(7, 2, 0, 9)};
    private static final int[] STAY = {
        Code.i(1, 2, 0, 9), Code.i(1, 1, 1, 9), Code.i(1, 2, 16, 9), Code.i(1, 1, 17, 9), Code.i(4, 1, 2, 9),
        Code.i(5, 1, 1, 9), Code.i(6, 2, 0, 9), Code.i(7, 1, 0, 9)};

    public static void main(String[] args) {
        atFirst();
        goWrapsAround();
        goFromEveryState();
        othersAreFourMore();
        jumpsAnywhere();
        branchesWrapBelowZero();
        leastAndGreatestBranch();
        leastAndGreatestJump();
        branchAtTheLastPlace();
        links();
        branchesAtTheirBounds();
        slotWhetherItWentOrNot();
        slotIsOneInstruction();
        branchInSlotIsAheadOfAll();
        slotOfBranchThatFailed();
        noSlotBehindException();
        slotInUser();
        Check.end();
    }

    private static SlotCore machine(int address, int... words) {
        SlotCore x = Code.at(address, words);
        x.set(1, -1);
        x.set(2, 1);
        x.set(3, 512);
        return x;
    }

    private static void at(String what, SlotCore x, int pc, int next, int slot) {
        Check.is(what + ": PC", x.look(0), pc);
        Check.is(what + ": NEXT", x.look(1), next);
        Check.is(what + ": in a slot", x.look(6), slot);
    }

    /** "0 and 4 at first"; "not at first" in a slot. */
    private static void atFirst() {
        at("at first", new SlotCore(), 0, 4, 0);
        SlotCore x = Code.machine(Code.far(2, 9));
        Check.is("a branch is the first instruction", x.step(), 0);
        at("behind it", x, 4, 36, 1);
    }

    /** "PC becomes v, NEXT 4 more." */
    private static void goWrapsAround() {
        int[][] all = {
            {0, 4}, {1, 5}, {4092, 4096}, {-1, 3}, {-2, 2}, {-3, 1}, {-4, 0}, {-5, -1}, {-8, -4}, {MOST, LEAST + 3},
            {MOST - 3, LEAST}, {MOST - 4, MOST}, {LEAST, LEAST + 4}};
        SlotCore x = new SlotCore();
        int before = 0;
        for (int[] each : all) {
            Check.is("go " + each[0] + ": what PC was", x.go(each[0]), before);
            at("go " + each[0], x, each[0], each[1], 0);
            before = each[0];
        }
        Check.is("steps", x.look(9), 0);
    }

    /** "It is in no slot, no load waits": from a slot, with a load that waits, and with neither; nothing else changes. */
    private static void goFromEveryState() {
        int[] ahead = {Code.far(2, 9), Code.i(35, 0, 5, 64), Code.nothing(), Code.i(35, 0, 0, 64)};
        for (int w : ahead) {
            SlotCore x = machine(64, w, Code.far(2, 10));
            x.lines(9);
            x.status(0x0834);
            x.set(5, 55);
            x.step();
            Check.is("go", x.go(68), 68);
            Check.looks("go", x, 68, 72, 0x0834, 9 << 10, 0, 0, 0, SlotCore.NONE, 0, 1, 0);
            Check.is("a branch is done there", x.step(), 0);
            at("a branch is done there", x, 72, 40, 1);
            Check.is("what waited never comes", x.register(5), 55);
        }
    }

    /** "All others: PC becomes NEXT, NEXT is 4 more." */
    private static void othersAreFourMore() {
        for (int high = 0; high < 8; high++) {
            int base = high << 29;
            SlotCore x = machine(base + 4088, Code.nothing(), Code.nothing());
            x.step();
            at("at " + base + " + 4088", x, base + 4092, base + 4096, 0);
            x.step();
            at("at the last place of " + base, x, base + 4096, base + 4100, 0);
            Check.is("behind it", x.step(), 1);
            Check.is("code", x.look(3), 6 << 2);
            Check.is("RETURN", x.look(4), base + 4096);
        }
    }

    /** "TO x: PC becomes NEXT, NEXT x"; then NEXT is 4 more than x, which may wrap around. */
    private static void jumpsAnywhere() {
        int[][] all = {{0, 4, 0}, {-4, 0, 6}, {-1, 3, 4}, {-3, 1, 4}, {MOST, LEAST + 3, 4}, {MOST - 3, LEAST, 6},
            {LEAST, LEAST + 4, 0}, {4096, 4100, 6}, {4092, 4096, 0}, {2, 6, 4}};
        for (int[] each : all) {
            SlotCore x = machine(64, Code.k(8, 3, 0, 0), Code.nothing());
            x.set(3, each[0]);
            String what = "jump to " + each[0];
            Check.is(what, x.step(), 0);
            at(what, x, 68, each[0], 1);
            Check.is(what + ": slot", x.step(), 0);
            at(what + " behind the slot", x, each[0], each[1], 0);
            Check.is(what + " there", x.step(), each[2] == 0 ? 0 : 1);
            Check.is(what + ": code", Code.code(x), each[2]);
            Check.is(what + ": RETURN", x.look(4), each[2] == 0 ? 0 : each[0]);
            Check.is(what + ": BAD", x.look(5), each[2] == 4 ? each[0] : 0);
        }
    }

    private static void branchesWrapBelowZero() {
        SlotCore x = machine(0, Code.i(4, 0, 0, -2), Code.nothing());
        x.step();
        at("from 0 to -4", x, 4, -4, 1);
        x.step();
        at("at -4", x, -4, 0, 0);
        Check.is("that is not in memory", x.step(), 1);
        Check.is("code", x.look(3), 6 << 2);
        Check.is("RETURN", x.look(4), -4);
        SlotCore y = machine(LEAST, Code.i(4, 0, 0, -2));
        y.step();
        at("from " + LEAST, y, LEAST + 4, MOST - 3, 1);
        SlotCore z = machine(0, Code.i(4, 0, 0, -1));
        z.step();
        at("from 0 to itself", z, 4, 0, 1);
    }

    /** "Branches go to PC + 4 + 4 * I", I from -32768 to 32767. */
    private static void leastAndGreatestBranch() {
        for (int address : new int[] {0, 4092, LEAST, LEAST + 4092, 0xE0000FFC}) {
            for (int i : new int[] {-32768, -32767, -1, 0, 1, 32766, 32767}) {
                SlotCore x = machine(address, Code.i(4, 0, 0, i));
                x.step();
                at("branch from " + address + " by " + i, x, address + 4, address + 4 + 4 * i, 1);
            }
        }
        SlotCore y = machine(4092, Code.i(4, 0, 0, 32767));
        y.step();
        Check.is("the farthest", y.look(1), 4092 + 4 + 131068);
        SlotCore z = machine(0, Code.i(4, 0, 0, -32768));
        z.step();
        Check.is("the farthest back", z.look(1), 4 - 131072);
    }

    /** "PC + 4 with its lowest 28 bits as bits 0 .. 25 times 4." */
    private static void leastAndGreatestJump() {
        for (int order = 2; order < 4; order++) {
            for (int high = 0; high < 8; high++) {
                int base = high << 29;
                for (int place : new int[] {0, 4092}) {
                    for (int bits : new int[] {0, 1, 0x2000000, 0x3FFFFFF}) {
                        SlotCore x = machine(base + place, Code.far(order, bits));
                        x.step();
                        at("jump " + order + " from " + (base + place), x, base + place + 4, base + 4 * bits, 1);
                        Check.is("its link", x.register(31), order == 3 ? base + place + 8 : 0);
                    }
                }
            }
        }
    }

    /** Its slot is not in memory. */
    private static void branchAtTheLastPlace() {
        for (int w : GO) {
            SlotCore x = machine(4092, w);
            Check.is("a branch at the last place", x.step(), 0);
            Check.is("its slot", x.step(), 1);
            Check.looks("its slot", x, Code.HANDLER, Code.HANDLER + 4, 0, 1 << 31 | 6 << 2, 4092, 0, 0, SlotCore.NONE, 0, 2, 1);
        }
    }

    /** "Register 31 = PC + 8, in any case." */
    private static void links() {
        for (int address : new int[] {0, 4092, LEAST, 0xE0000FFC}) {
            for (int s = 1; s <= 2; s++) {
                for (int kind : new int[] {0, 1, 16, 17}) {
                    SlotCore x = machine(address, Code.i(1, s, kind, 9));
                    x.set(31, 5);
                    x.step();
                    Check.is("link of " + kind + " at " + address, x.register(31), kind < 16 ? 5 : address + 8);
                }
            }
            SlotCore y = machine(address, Code.k(9, 3, 0, 31));
            y.step();
            Check.is("link of K 9 at " + address, y.register(31), address + 8);
            SlotCore z = machine(address, Code.k(9, 3, 0, 3));
            z.step();
            Check.is("link to S", z.register(3), address + 8);
            Check.is("S is read first", z.look(1), 512);
        }
    }

    /** "If S < 0", ">= 0", "<= 0", "> 0"; "if S is T, is not T". */
    private static void branchesAtTheirBounds() {
        for (int s : new int[] {LEAST, LEAST + 1, -2, -1, 0, 1, 2, MOST - 1, MOST}) {
            branches(Code.i(1, 4, 0, 9), s, s < 0);
            branches(Code.i(1, 4, 16, 9), s, s < 0);
            branches(Code.i(1, 4, 1, 9), s, s >= 0);
            branches(Code.i(1, 4, 17, 9), s, s >= 0);
            branches(Code.i(6, 4, 0, 9), s, s <= 0);
            branches(Code.i(7, 4, 0, 9), s, s > 0);
            branches(Code.i(4, 4, 1, 9), s, s == -1);
            branches(Code.i(5, 4, 1, 9), s, s != -1);
            branches(Code.i(4, 4, 0, 9), s, s == 0);
            branches(Code.i(5, 4, 0, 9), s, s != 0);
            branches(Code.i(4, 4, 4, 9), s, true);
            branches(Code.i(5, 4, 4, 9), s, false);
        }
    }

    private static void branches(int w, int s, boolean goes) {
        SlotCore x = machine(64, w);
        x.set(4, s);
        String what = "branch " + Integer.toHexString(w) + " of " + s;
        Check.is(what, x.step(), 0);
        at(what, x, 68, goes ? 64 + 4 + 36 : 72, 1);
    }

    /** "Whether it went or not." */
    private static void slotWhetherItWentOrNot() {
        for (int w : GO) {
            SlotCore x = machine(64, w);
            Check.is("it goes", x.step(), 0);
            Check.is("in a slot", x.look(6), 1);
            Check.is("it went", x.look(1) == 72 ? 1 : 0, 0);
        }
        for (int w : STAY) {
            SlotCore x = machine(64, w);
            Check.is("it does not go", x.step(), 0);
            at("it did not go", x, 68, 72, 1);
        }
    }

    private static void slotIsOneInstruction() {
        for (int w : STAY) {
            SlotCore x = machine(64, w, Code.nothing(), Code.far(2, 100));
            x.run(2);
            at("behind the slot", x, 72, 76, 0);
            Check.is("a jump is done again", x.step(), 0);
            at("a jump is done again", x, 76, 400, 1);
        }
    }

    /** "So is a branch or jump in a slot (looked at ahead of all other exceptions of it)." */
    private static void branchInSlotIsAheadOfAll() {
        for (int first = 0; first < GO.length + STAY.length; first++) {
            for (int second = 0; second < GO.length + STAY.length; second++) {
                SlotCore x = machine(64, either(first), either(second));
                x.step();
                SlotCore y = machine(64, either(first));
                y.step();
                Check.is("a branch in a slot", x.step(), 1);
                Check.looks("a branch in a slot", x, Code.HANDLER, Code.HANDLER + 4, 0, 1 << 31 | 10 << 2, 64, 0, 0,
                    SlotCore.NONE, 0, 2, 1);
                Check.is("its link", x.register(31), y.register(31));
                Check.is("its D", x.register(4), y.register(4));
            }
        }
    }

    private static int either(int n) {
        return n < GO.length ? GO[n] : STAY[n - GO.length];
    }

    /** The branch that came to an exception was not done: what follows is in no slot. */
    private static void slotOfBranchThatFailed() {
        SlotCore x = machine(64, GO[0], GO[0]);
        x.put(128, Code.far(2, 9));
        x.run(2);
        Check.is("a jump at once", x.step(), 0);
        at("a jump at once", x, Code.HANDLER + 4, LEAST + 36, 1);
    }

    /** "It is in no slot": behind every exception, from a slot, too. */
    private static void noSlotBehindException() {
        for (int code : Exceptions.CODES) {
            SlotCore x = new SlotCore();
            x.put(128, Code.far(2, 9));
            Exceptions.ready(x, code);
            int lines = x.lines(0);
            int place = code == 6 ? 4092 : Exceptions.PLACE - 4;
            x.put(place, Code.far(2, 50));
            x.put(Exceptions.PLACE, Exceptions.word(code));
            x.go(place);
            Check.is("a jump", x.step(), 0);
            x.lines(lines);
            Check.is("in its slot code " + code, x.step(), code == 0 ? 2 : 1);
            at("behind code " + code, x, Code.HANDLER, Code.HANDLER + 4, 0);
            Check.is("CAUSE of " + code, x.look(3), 1 << 31 | lines << 10 | code << 2);
            Check.is("RETURN of " + code, x.look(4), place);
            Check.is("a jump behind it", x.step(), 0);
        }
    }

    /** PC in a slot comes to its exception before the instruction there is looked at. */
    private static void slotInUser() {
        SlotCore x = machine(LEAST, Code.far(2, 9), Code.far(2, 9));
        x.step();
        x.status(2);
        Check.is("a slot with bit 31 in USER", x.step(), 1);
        Check.looks("a slot with bit 31 in USER", x, Code.HANDLER, Code.HANDLER + 4, 8, 1 << 31 | 4 << 2, LEAST, LEAST + 4,
            0, SlotCore.NONE, 0, 2, 1);
    }
}
