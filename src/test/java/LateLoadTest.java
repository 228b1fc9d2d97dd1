/** Promise 10, step: what comes of a load that waits. */
public final class LateLoadTest {
    private static final int WORD = 0x81028384;
    private static final int OTHER = 0x11121314;

    public static void main(String[] args) {
        seenOneLate();
        resultOutlastsLoad();
        loadBehindLoad();
        loadForTheSame();
        piecesJoin();
        piecesJoinForZero();
        piecesDoNotJoinOthers();
        loadForZero();
        loadInSlot();
        exceptionBringsTheLoad();
        interruptBringsTheLoad();
        loadThatFaults();
        Check.end();
    }

    /** Register 1 is 512, where WORD and OTHER stand. */
    private static SlotCore machine(int... words) {
        SlotCore x = Code.two(512, 7, words);
        x.put(512, WORD);
        x.put(516, OTHER);
        return x;
    }

    private static void waits(SlotCore x, int register, int value) {
        Check.is("it waits for", x.look(7), register);
        Check.is("its value", x.look(8), value);
    }

    private static void seenOneLate() {
        SlotCore x = machine(Code.i(35, 1, 2, 0), Code.k(33, 2, 0, 3), Code.k(33, 2, 0, 4));
        x.run(3);
        Check.is("the next has the old value", x.register(3), 7);
        Check.is("the one behind has the new", x.register(4), WORD);
        SlotCore y = machine(Code.i(35, 1, 1, 0), Code.i(35, 1, 2, 4), Code.nothing());
        y.run(3);
        Check.is("an address has the old value", y.register(2), OTHER);
        SlotCore z = machine(Code.i(35, 1, 2, 0), Code.i(4, 2, 0, 5));
        z.set(2, 0);
        z.run(2);
        Check.is("a branch has the old value", z.look(1), 28);
    }

    private static void resultOutlastsLoad() {
        SlotCore x = machine(Code.i(35, 1, 2, 0), Code.i(9, 2, 2, 1));
        x.run(2);
        Check.is("the result is what stays", x.register(2), 8);
        waits(x, SlotCore.NONE, 0);
        SlotCore y = machine(Code.i(35, 1, 31, 0), Code.far(3, 9));
        y.run(2);
        Check.is("a link, too", y.register(31), 12);
    }

    private static void loadBehindLoad() {
        SlotCore x = machine(Code.i(35, 1, 2, 0), Code.i(35, 1, 3, 4), Code.nothing());
        x.run(2);
        Check.is("the first came", x.register(2), WORD);
        Check.is("the second did not", x.register(3), 0);
        waits(x, 3, OTHER);
        x.step();
        Check.is("now it did", x.register(3), OTHER);
    }

    private static void loadForTheSame() {
        SlotCore x = machine(Code.i(35, 1, 2, 0), Code.i(35, 1, 2, 4), Code.nothing());
        x.run(2);
        Check.is("the first came", x.register(2), WORD);
        waits(x, 2, OTHER);
        x.step();
        Check.is("then the second", x.register(2), OTHER);
    }

    private static void piecesJoin() {
        SlotCore x = machine(Code.i(34, 1, 2, 1), Code.i(38, 1, 2, 4), Code.nothing());
        x.run(2);
        Check.is("the first came", x.register(2), 0x02838407);
        waits(x, 2, 0x02838411);
        x.step();
        Check.is("joined", x.register(2), 0x02838411);
        SlotCore y = machine(Code.i(38, 1, 2, 4), Code.i(34, 1, 2, 1), Code.nothing());
        y.run(3);
        Check.is("in the other order", y.register(2), 0x02838411);
        SlotCore z = machine(Code.from(2, 12), Code.i(34, 1, 2, 3));
        z.status(0xAB30);
        z.run(2);
        waits(z, 2, 0x8400AB30);
    }

    private static void piecesJoinForZero() {
        SlotCore x = machine(Code.i(35, 1, 0, 0), Code.i(38, 1, 0, 4), Code.nothing());
        x.run(2);
        waits(x, 0, 0x81028311);
        x.step();
        Check.is("0 stays 0", x.register(0), 0);
        SlotCore y = machine(Code.i(34, 1, 0, 2));
        y.step();
        waits(y, 0, 0x83840000);
    }

    private static void piecesDoNotJoinOthers() {
        SlotCore x = machine(Code.i(35, 1, 3, 0), Code.i(38, 1, 2, 4));
        x.run(2);
        waits(x, 2, 0x11);
        SlotCore y = machine(Code.i(35, 1, 2, 0), Code.nothing(), Code.i(38, 1, 2, 4));
        y.run(3);
        waits(y, 2, 0x81028311);
    }

    private static void loadForZero() {
        SlotCore x = machine(Code.i(35, 1, 0, 0), Code.nothing());
        x.step();
        waits(x, 0, WORD);
        x.step();
        waits(x, SlotCore.NONE, 0);
        Check.is("0 stays 0", x.register(0), 0);
    }

    private static void loadInSlot() {
        SlotCore x = machine(Code.i(4, 0, 0, 3), Code.i(35, 1, 2, 0));
        x.put(16, Code.k(33, 2, 0, 3));
        x.put(20, Code.k(33, 2, 0, 4));
        x.run(4);
        Check.is("at the target", x.register(3), 7);
        Check.is("behind it", x.register(4), WORD);
    }

    private static void exceptionBringsTheLoad() {
        SlotCore x = machine(Code.i(35, 1, 2, 0), Code.k(12, 0, 0, 0));
        Check.is("CALL", x.run(2), 1);
        Check.is("the load came", x.register(2), WORD);
        waits(x, SlotCore.NONE, 0);
        SlotCore y = machine(Code.i(35, 1, 2, 0), Code.i(35, 1, 3, 1));
        Check.is("a load that faults", y.run(2), 1);
        Check.is("the load ahead came", y.register(2), WORD);
        waits(y, SlotCore.NONE, 0);
    }

    private static void interruptBringsTheLoad() {
        SlotCore x = machine(Code.i(35, 1, 2, 0), Code.i(9, 0, 3, 1));
        x.status(0x401);
        x.step();
        x.lines(1);
        Check.is("an interrupt", x.step(), 2);
        Check.is("the load came", x.register(2), WORD);
        Check.is("the instruction was not done", x.register(3), 0);
        waits(x, SlotCore.NONE, 0);
    }

    private static void loadThatFaults() {
        SlotCore x = machine(Code.i(34, 1, 2, 0));
        x.set(1, 4096);
        Check.is("outside memory", x.step(), 1);
        waits(x, SlotCore.NONE, 0);
        Check.is("T stays", x.register(2), 7);
    }
}
