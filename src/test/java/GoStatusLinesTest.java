/** Promise 7, go; promise 8, status; promise 9, lines. */
public final class GoStatusLinesTest {
    public static void main(String[] args) {
        goAnywhere();
        goDropsTheLoad();
        goLeavesTheSlot();
        statusHasWhatItHas();
        statusTakesEffect();
        everyLine();
        linesInCause();
        wrongLines();
        Check.end();
    }

    private static void goAnywhere() {
        SlotCore x = new SlotCore();
        int before = 0;
        for (int v : new int[] {8, 3, -1, -4, Integer.MIN_VALUE, Integer.MAX_VALUE, 4096, 0}) {
            Check.is("go " + v, x.go(v), before);
            Check.is("PC", x.look(0), v);
            Check.is("NEXT", x.look(1), v + 4);
            before = v;
        }
        Check.is("steps", x.look(9), 0);
        Check.is("exceptions", x.look(10), 0);
    }

    private static void goDropsTheLoad() {
        SlotCore x = Code.machine(Code.i(35, 0, 5, 64), Code.nothing());
        x.put(64, 99);
        x.set(5, 1);
        x.step();
        Check.is("go", x.go(4), 4);
        Check.is("no load waits", x.look(7), SlotCore.NONE);
        Check.is("nor a value", x.look(8), 0);
        x.step();
        Check.is("it never comes", x.register(5), 1);
    }

    private static void goLeavesTheSlot() {
        SlotCore x = Code.machine(Code.i(4, 0, 0, 9), Code.i(4, 0, 0, 9));
        x.step();
        Check.is("in a slot", x.look(6), 1);
        x.go(4);
        Check.is("no more", x.look(6), 0);
        Check.is("a branch is done there", x.step(), 0);
        Check.is("and goes", x.look(1), 44);
    }

    private static void statusHasWhatItHas() {
        SlotCore x = new SlotCore();
        Check.is("status", x.status(-1), 0);
        Check.is("look", x.look(2), 0xFF3F);
        Check.is("status", x.status(0xFFFF00C0), 0xFF3F);
        Check.is("look", x.look(2), 0);
        for (int bit = 0; bit < 32; bit++) {
            x.status(1 << bit);
            Check.is("bit " + bit, x.look(2), 1 << bit & 0xFF3F);
        }
    }

    private static void statusTakesEffect() {
        SlotCore x = Code.machine(Code.leave());
        x.status(2);
        Check.is("USER", x.step(), 1);
        x.go(0);
        x.status(0);
        Check.is("not USER", x.step(), 0);
    }

    private static void everyLine() {
        SlotCore x = new SlotCore();
        int before = 0;
        for (int lines = 0; lines < 64; lines++) {
            Check.is("lines " + lines, x.lines(lines), before);
            Check.is("CAUSE", x.look(3), lines << 10);
            before = lines;
        }
    }

    private static void linesInCause() {
        SlotCore x = Code.machine(Code.k(13, 0, 0, 0));
        x.lines(33);
        x.step();
        Check.is("CAUSE", x.look(3), 33 << 10 | 9 << 2);
        x.lines(0);
        Check.is("the code stays", x.look(3), 9 << 2);
        Check.is("steps", x.look(9), 1);
    }

    private static void wrongLines() {
        SlotCore x = new SlotCore();
        x.lines(21);
        for (int lines : new int[] {-1, 64, 65, 127, Integer.MAX_VALUE, Integer.MIN_VALUE}) {
            Check.illegalArgument("lines " + lines, () -> x.lines(lines));
            Check.is("unchanged", x.look(3), 21 << 10);
        }
        Check.is("lines", x.lines(63), 21);
    }
}
