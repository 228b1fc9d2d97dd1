import java.util.Random;

/** All calls, at random from written seeds, against the second machine. */
public final class ModelTest {
    private static final int RUNS = 20000;
    // With what is looked at, an object comes to less than the 512 calls that it is good for.
    private static final int CALLS = 40;
    private static final int WORDS = 60;
    private static final int[] EDGES = {
        0, 1, -1, 2, 4, 31, 32, 255, 0x7FFF, 0x8000, 0xFFFF, 4092, 4093, 4095, 4096, 0x7FFFFFFF, 0x80000000,
        0x80000001, 0xFFFFFF00, 0x80000080, 0xA0000100, 0x20000100, 0x1FFFFFFC, 0x81828384};
    private static final int[] ORDERS = {
        0, 0, 0, 0, 0, 0, 1, 1, 2, 3, 4, 5, 6, 7, 8, 9, 10, 11, 12, 13, 14, 15, 16, 16, 16, 32, 33, 34, 34, 34, 35, 35,
        36, 37, 38, 38, 38, 40, 41, 42, 43, 46};
    private static final int[] KINDS = {
        0, 2, 3, 4, 6, 7, 8, 9, 12, 13, 16, 17, 18, 19, 24, 25, 26, 26, 27, 27, 32, 33, 34, 35, 36, 37, 38, 39, 42, 43};
    private static final int[] REGISTERS = {0, 1, 2, 3, 3, 31};

    private final Random random;
    private final String name;
    private final SlotCore core = new SlotCore();
    private final Model model = new Model();

    private ModelTest(int seed) {
        random = new Random(seed);
        name = "seed " + seed;
    }

    public static void main(String[] args) {
        for (int seed = 0; seed < RUNS; seed++) {
            new ModelTest(seed).play();
        }
        Check.end();
    }

    private void play() {
        for (int place = 0; place < 4096; place += 4) {
            if (place < 200 || place == 4092) {
                putBoth(place, instruction());
            }
        }
        for (int call = 0; call < CALLS; call++) {
            oneCall();
            compareSome(call);
        }
        for (int what = 0; what < Check.SEEN; what++) {
            Check.is(name + " at the end " + what, Check.seen(core, what), modelSeen(what));
        }
        for (int n = 0; n < WORDS; n++) {
            int place = 4 * random.nextInt(n % 4 == 0 ? 1024 : 128);
            Check.is(name + " word " + place, core.word(place), model.word(place));
        }
    }

    private void putBoth(int place, int v) {
        Check.is(name + " put " + place, core.put(place, v), model.word(place));
        model.word(place, v);
    }

    private void oneCall() {
        switch (random.nextInt(random.nextInt(30) == 0 ? 9 : 8)) {
            case 0: putBoth(4 * random.nextInt(1024), instruction()); break;
            case 1: setBoth(random.nextInt(34), number()); break;
            case 2: goBoth(random.nextInt(6) == 0 ? number() : place()); break;
            case 3: statusBoth(random.nextInt(3) == 0 ? random.nextInt() : random.nextInt(16) << 2); break;
            case 4: linesBoth(random.nextInt(2) * random.nextInt(64)); break;
            case 5: case 6: Check.is(name + " step", core.step(), model.step()); break;
            case 7: runBoth(random.nextInt(20)); break;
            default: core.reset(); model.reset(); break;
        }
    }

    private void setBoth(int k, int v) {
        Check.is(name + " set " + k, core.set(k, v), model.r[k]);
        model.r[k] = k == 0 ? 0 : v;
    }

    private void goBoth(int v) {
        Check.is(name + " go " + v, core.go(v), model.pc);
        model.go(v);
    }

    private void statusBoth(int v) {
        Check.is(name + " status " + v, core.status(v), model.status());
        model.status(v);
    }

    private void linesBoth(int v) {
        Check.is(name + " lines " + v, core.lines(v), model.lines);
        model.lines = v;
    }

    private void runBoth(int n) {
        int came = 0;
        for (int step = 0; step < n; step++) {
            came += model.step() == 0 ? 0 : 1;
        }
        Check.is(name + " run " + n, core.run(n), came);
    }

    private void compareSome(int call) {
        for (int n = 0; n < 7; n++) {
            int what = random.nextInt(Check.SEEN);
            Check.is(name + " call " + call + " seen " + what, Check.seen(core, what), modelSeen(what));
        }
    }

    private int modelSeen(int what) {
        return what < 34 ? model.r[what] : model.look(what - 34);
    }

    private int place() {
        return 4 * random.nextInt(60) + (random.nextInt(4) == 0 ? Integer.MIN_VALUE : 0);
    }

    private int number() {
        return random.nextInt(3) == 0 ? random.nextInt() : EDGES[random.nextInt(EDGES.length)];
    }

    private int pick(int[] row) {
        return row[random.nextInt(row.length)];
    }

    private int instruction() {
        int order = random.nextInt(25) == 0 ? random.nextInt(64) : pick(ORDERS);
        int s = pick(REGISTERS);
        int t = pick(REGISTERS);
        int d = pick(REGISTERS);
        if (order == 0) {
            int k = random.nextInt(25) == 0 ? random.nextInt(64) : pick(KINDS);
            return Code.k(k, s, t, d, random.nextInt(32));
        }
        if (order == 16) {
            return control(t);
        }
        if (order == 1 && random.nextInt(8) != 0) {
            t = random.nextInt(2) + 16 * random.nextInt(2);
        }
        int low = random.nextInt(3) == 0 ? number() : order < 8 ? random.nextInt(40) - 20 : random.nextInt(256);
        return order == 2 || order == 3 ? Code.far(order, random.nextInt(64)) : Code.i(order, s, t, low);
    }

    private int control(int t) {
        int number = random.nextInt(5) == 0 ? random.nextInt(32) : pick(new int[] {8, 12, 13, 14});
        switch (random.nextInt(8)) {
            case 0: case 1: case 2: return Code.from(t, number);
            case 3: case 4: return Code.to(t, number);
            case 5: case 6: return Code.leave();
            default: return Code.i(16, random.nextInt(32), t, random.nextInt());
        }
    }
}
