/** The edges of a step: which exception comes first, what it leaves as it was, and when an interrupt is due. */
public final class StepEdgesTest {
    private static final int LEAST = Integer.MIN_VALUE;
    private static final int MOST = Integer.MAX_VALUE;

    public static void main(String[] args) {
        answers();
        exceptionsDoNothingElse();
        exceptionsMoveTheModes();
        behindABranchGoesAway();
        badIsTheLatest();
        addressesOfPc();
        placesOfPc();
        pcInUser();
        dataAddresses();
        dataInUser();
        firstAndLastRequest();
        requestsNeedAllThree();
        writtenRequests();
        interruptIsAheadOfTheInstruction();
        interruptOnceOnly();
        modesReachTheirEnd();
        everyOrderAndKind();
        everyKindOf16();
        userCanDoAllElse();
        handlerAtItsPlace();
        Check.end();
    }

    /** "0 an instruction was done, 1 it came to an exception, 2 there was an interrupt." */
    private static void answers() {
        Check.is("done", new SlotCore().step(), 0);
        for (int code : Exceptions.CODES) {
            SlotCore x = new SlotCore();
            Exceptions.bring(x, code);
            Check.is("code", Code.code(x), code);
            Check.is("steps", x.look(9), 1);
            Check.is("exceptions and interrupts", x.look(10), 1);
        }
    }

    private static void fill(SlotCore x) {
        for (int k = 1; k < 34; k++) {
            x.set(k, 1000 + k);
        }
        x.put(0, 0x01020304);
        x.put(4092, 0x05060708);
    }

    /** "Comes to its exception, and does nothing then." */
    private static void exceptionsDoNothingElse() {
        for (int code : Exceptions.CODES) {
            SlotCore x = new SlotCore();
            fill(x);
            Exceptions.bring(x, code);
            for (int k = 1; k < 34; k++) {
                int want = k == 27 ? 4096 : k == 28 ? MOST : 1000 + k;
                Check.is("code " + code + ": register " + k, x.register(k), want);
            }
            Check.is("code " + code + ": the first word", x.word(0), 0x01020304);
            Check.is("code " + code + ": the last word", x.word(4092), 0x05060708);
            Check.is("code " + code + ": BAD", x.look(5), code == 4 || code == 5 ? 2 : 0);
            Check.is("code " + code + ": RETURN", x.look(4), code == 6 ? 4096 : Exceptions.PLACE);
            Check.is("code " + code + ": PC", x.look(0), -2147483520);
            Check.is("code " + code + ": NEXT", x.look(1), -2147483516);
            Check.is("code " + code + ": in no slot", x.look(6), 0);
            Check.is("code " + code + ": none waits", x.look(7), SlotCore.NONE);
        }
    }

    /** "STATUS bits 0 .. 5 are those of 0 .. 3 two higher, 0 and 1 are 0." */
    private static void exceptionsMoveTheModes() {
        for (int modes = 0; modes < 64; modes++) {
            SlotCore x = Code.machine(Code.k(13, 0, 0, 0));
            x.status(0xA500 | modes);
            Check.is("modes " + modes, x.step(), 1);
            Check.is("modes " + modes + ": STATUS", x.look(2), 0xA500 | (modes & 15) << 2);
            if ((modes & 1) == 1) {
                x.lines(63);
                x.go(0);
                x.status(0xA500 | modes);
                Check.is("modes " + modes + " by interrupt", x.step(), 2);
                Check.is("modes " + modes + " by interrupt: STATUS", x.look(2), 0xA500 | (modes & 15) << 2);
            }
        }
    }

    /** "And then BEHIND A BRANCH is 1, else 0." */
    private static void behindABranchGoesAway() {
        for (int code : Exceptions.CODES) {
            SlotCore x = Code.machine(Code.far(2, 9), Code.k(12, 0, 0, 0));
            x.run(2);
            Check.is("in a slot", x.look(3), LEAST | 8 << 2);
            Exceptions.bring(x, code);
            Check.is("then code " + code, x.look(3) & ~0xFC00, code << 2);
        }
    }

    /** "BAD the latest bad address": those that tell none leave it. */
    private static void badIsTheLatest() {
        for (int code : Exceptions.CODES) {
            SlotCore x = new SlotCore();
            x.go(LEAST + 1);
            x.step();
            Check.is("BAD", x.look(5), LEAST + 1);
            Exceptions.bring(x, code);
            Check.is("BAD behind code " + code, x.look(5), code == 4 || code == 5 ? 2 : LEAST + 1);
        }
    }

    private static void pcComesTo(int status, int pc, int code) {
        SlotCore x = new SlotCore();
        x.status(status);
        x.go(pc);
        String what = "STATUS " + status + ", PC " + pc;
        Check.is(what, x.step(), code == 0 ? 0 : 1);
        Check.is(what + ": code", Code.code(x), code);
        Check.is(what + ": RETURN", x.look(4), code == 0 ? 0 : pc);
        Check.is(what + ": BAD", x.look(5), code == 4 ? pc : 0);
    }

    /** "If it is no multiple of 4": that is looked at ahead of its place. */
    private static void addressesOfPc() {
        for (int status = 0; status < 4; status += 2) {
            for (int base : new int[] {0, 4092, 4096, 0x1FFFFFFC, 0x20000000, LEAST, LEAST + 4092, LEAST + 4096, -4}) {
                for (int more = 1; more < 4; more++) {
                    pcComesTo(status, base + more, 4);
                }
            }
        }
    }

    /** "If the place is not in memory: 6." */
    private static void placesOfPc() {
        for (int high = 0; high < 8; high++) {
            pcComesTo(0, high << 29, 0);
            pcComesTo(0, (high << 29) + 4092, 0);
            pcComesTo(0, (high << 29) + 4096, 6);
            pcComesTo(0, (high << 29) - 4, 6);
        }
        for (int bit = 12; bit < 29; bit++) {
            pcComesTo(0, 1 << bit, 6);
        }
    }

    /** "Or has bit 31 in USER: 4": that, too. */
    private static void pcInUser() {
        pcComesTo(2, 0, 0);
        pcComesTo(2, 0x60000FFC, 0);
        pcComesTo(2, 0x60001000, 6);
        pcComesTo(2, 0x7FFFFFFC, 6);
        pcComesTo(2, LEAST, 4);
        pcComesTo(2, LEAST + 4092, 4);
        pcComesTo(2, LEAST + 4096, 4);
        pcComesTo(2, -4, 4);
        for (int others : new int[] {0, 1, 8, 0x20, 0xFF3D}) {
            pcComesTo(others, LEAST, 0);
        }
    }

    private static void dataComesTo(int status, int order, int address, int code) {
        SlotCore x = Code.at(64, Code.i(order, 1, 2, 0));
        x.set(1, address);
        x.set(2, 77);
        x.put(4092, 0x05060708);
        x.status(status);
        String what = "STATUS " + status + ", order " + order + " at " + address;
        Check.is(what, x.step(), code == 0 ? 0 : 1);
        Check.is(what + ": code", Code.code(x), code);
        Check.is(what + ": BAD", x.look(5), code == 4 || code == 5 ? address : 0);
        Check.is(what + ": T", x.register(2), 77);
        Check.is(what + ": waits", x.look(7), code == 0 && order < 40 ? 2 : SlotCore.NONE);
        boolean stored = code == 0 && order >= 40 && (address & 0x1FFFFFFC) == 4092;
        Check.is(what + ": memory", x.word(4092) == 0x05060708 ? 0 : 1, stored ? 1 : 0);
    }

    private static int unit(int order) {
        return order == 35 || order == 43 ? 4 : order == 33 || order == 37 || order == 41 ? 2 : 1;
    }

    private static void dataAddresses() {
        int[] orders = {32, 33, 34, 35, 36, 37, 38, 40, 41, 42, 43, 46};
        for (int order : orders) {
            for (int base : new int[] {0, 4092, 4096, -4, LEAST, LEAST + 4092, LEAST + 4096, MOST - 3}) {
                for (int more = 0; more < 4; more++) {
                    int place = base + more & 0x1FFFFFFF;
                    int bad = order < 40 ? 4 : 5;
                    int code = more % unit(order) != 0 ? bad : place < 4096 ? 0 : 7;
                    dataComesTo(0, order, base + more, code);
                    dataComesTo(0x3C, order, base + more, code);
                }
            }
        }
    }

    private static void dataInUser() {
        int[] orders = {32, 33, 34, 35, 36, 37, 38, 40, 41, 42, 43, 46};
        for (int order : orders) {
            int bad = order < 40 ? 4 : 5;
            dataComesTo(2, order, 4092, 0);
            dataComesTo(2, order, 4096, 7);
            dataComesTo(2, order, 0x60000FFC, 0);
            dataComesTo(2, order, MOST - 3, 7);
            dataComesTo(2, order, LEAST, bad);
            dataComesTo(2, order, LEAST + 4092, bad);
            dataComesTo(2, order, LEAST + 4096, bad);
            dataComesTo(2, order, -4, bad);
            dataComesTo(2, order, -1, bad);
        }
    }

    /** "Some bit is in both CAUSE's bits 8 .. 15 and the MASK": each of the six lines with each of the eight bits. */
    private static void firstAndLastRequest() {
        for (int line = 0; line < 6; line++) {
            for (int bit = 8; bit < 16; bit++) {
                SlotCore x = Code.machine(Code.i(9, 0, 1, 1));
                x.lines(1 << line);
                x.status(1 << bit | 1);
                boolean due = bit == line + 10;
                Check.is("line " + line + ", bit " + bit, x.step(), due ? 2 : 0);
                Check.is("the instruction", x.register(1), due ? 0 : 1);
                Check.is("CAUSE", x.look(3), 1 << line + 10);
            }
        }
    }

    private static void requestsNeedAllThree() {
        requests(0, 0xFF01, 0);
        requests(63, 0x0001, 0);
        requests(63, 0xFF00, 0);
        requests(63, 0xFF3C, 0);
        requests(63, 0x0301, 0);
        requests(63, 0xFF01, 2);
        requests(63, 0xFF03, 2);
        requests(1, 0x0401, 2);
        requests(1, 0xFB01, 0);
        requests(32, 0x8001, 2);
        requests(32, 0x7F01, 0);
        requests(21, 0xAB01, 0);
        requests(21, 0xAF01, 2);
    }

    private static void requests(int lines, int status, int want) {
        SlotCore x = new SlotCore();
        x.lines(lines);
        x.status(status);
        Check.is("lines " + lines + ", STATUS " + status, x.step(), want);
        Check.is("exceptions and interrupts", x.look(10), want == 2 ? 1 : 0);
    }

    private static void writtenRequests() {
        for (int bit = 8; bit < 10; bit++) {
            for (int mask = 8; mask < 16; mask++) {
                SlotCore x = Code.machine(Code.to(1, 13), Code.nothing());
                x.set(1, 1 << bit);
                x.status(1 << mask | 1);
                Check.is("the one that writes it is done", x.step(), 0);
                Check.is("written bit " + bit + ", mask " + mask, x.step(), mask == bit ? 2 : 0);
            }
        }
    }

    /** "There is an interrupt (exception 0), ahead of the instruction": whatever that would come to. */
    private static void interruptIsAheadOfTheInstruction() {
        for (int code : Exceptions.CODES) {
            SlotCore x = new SlotCore();
            Exceptions.ready(x, code);
            x.put(Exceptions.PLACE, Exceptions.word(code));
            x.go(code == 6 ? 4096 : Exceptions.PLACE);
            x.lines(1);
            x.status(code == 11 ? 0x0403 : 0x0401);
            Check.is("ahead of code " + code, x.step(), 2);
            Check.is("ahead of code " + code + ": CAUSE", x.look(3), 1 << 10);
            Check.is("ahead of code " + code + ": RETURN", x.look(4), code == 6 ? 4096 : Exceptions.PLACE);
            Check.is("ahead of code " + code + ": BAD", x.look(5), 0);
        }
        SlotCore y = new SlotCore();
        y.go(-1);
        y.lines(1);
        y.status(0x0403);
        Check.is("ahead of a bad PC", y.step(), 2);
        Check.is("ahead of a bad PC: RETURN", y.look(4), -1);
        Check.is("ahead of a bad PC: BAD", y.look(5), 0);
    }

    private static void interruptOnceOnly() {
        SlotCore x = new SlotCore();
        x.put(128, Code.leave());
        x.lines(63);
        x.status(0xFF01);
        Check.is("an interrupt", x.step(), 2);
        Check.is("not in its handler", x.step(), 0);
        Check.is("again behind it", x.step(), 2);
        Check.is("RETURN", x.look(4), Code.HANDLER + 4);
        Check.is("exceptions and interrupts", x.look(10), 2);
    }

    /** Three exceptions deep, what was before is gone; leaving keeps bits 4 and 5. */
    private static void modesReachTheirEnd() {
        SlotCore x = Code.machine(Code.k(13, 0, 0, 0), Code.leave(), Code.leave(), Code.leave());
        int[] deep = {0xFF0C, 0xFF30, 0xFF00, 0xFF00};
        x.status(0xFF03);
        for (int want : deep) {
            x.step();
            Check.is("deeper", x.look(2), want);
            x.go(0);
        }
        x.go(4);
        x.status(0xFF10);
        int[] back = {0xFF14, 0xFF15, 0xFF15};
        for (int want : back) {
            Check.is("leave", x.step(), 0);
            Check.is("back", x.look(2), want);
        }
        x.go(4);
        x.status(0xFF20);
        Check.is("leave", x.step(), 0);
        Check.is("back to USER ahead", x.look(2), 0xFF28);
        Check.is("leave", x.step(), 0);
        Check.is("back to USER", x.look(2), 0xFF2A);
        Check.is("leave in USER", x.step(), 1);
        Check.is("leave in USER: code", Code.code(x), 11);
    }

    /** "All else is exception 10." */
    private static void everyOrderAndKind() {
        String orders = " 0 1 2 3 4 5 6 7 8 9 10 11 12 13 14 15 16 32 33 34 35 36 37 38 40 41 42 43 46 ";
        String kinds = " 0 2 3 4 6 7 8 9 12 13 16 17 18 19 24 25 26 27 32 33 34 35 36 37 38 39 42 43 ";
        for (int status = 0; status < 4; status += 2) {
            for (int n = 0; n < 64; n++) {
                boolean order = orders.contains(" " + n + " ");
                int want = !order ? 10 : n == 16 && status == 2 ? 11 : 0;
                wordComesTo(status, n << 26, want);
                boolean kind = kinds.contains(" " + n + " ");
                wordComesTo(status, n, n == 12 ? 8 : n == 13 ? 9 : kind ? 0 : 10);
            }
            for (int kind = 0; kind < 32; kind++) {
                boolean is = kind == 0 || kind == 1 || kind == 16 || kind == 17;
                wordComesTo(status, 1 << 26 | kind << 16, is ? 0 : 10);
            }
        }
    }

    private static void wordComesTo(int status, int w, int code) {
        SlotCore x = Code.at(64, w);
        x.status(status);
        String what = "word " + Integer.toHexString(w);
        Check.is(what, x.step(), code == 0 ? 0 : 1);
        Check.is(what + ": code", Code.code(x), code);
        Check.is(what + ": RETURN", x.look(4), code == 0 ? 0 : 64);
    }

    /** "16 with K 16": with every other K there is no such instruction. */
    private static void everyKindOf16() {
        for (int k = 0; k < 64; k++) {
            wordComesTo(0, 16 << 26 | 16 << 21 | k, k == 16 ? 0 : 10);
            wordComesTo(0, 16 << 26 | k, 0);
            wordComesTo(0, 16 << 26 | 4 << 21 | k, 0);
        }
        for (int kind = 0; kind < 32; kind++) {
            wordComesTo(0, 16 << 26 | kind << 21, kind == 0 || kind == 4 ? 0 : 10);
            wordComesTo(0, 16 << 26 | kind << 21 | 16, kind == 0 || kind == 4 || kind == 16 ? 0 : 10);
        }
        wordComesTo(2, Code.from(1, 12), 11);
        wordComesTo(2, Code.from(1, 0), 11);
        wordComesTo(2, Code.to(1, 12), 11);
        wordComesTo(2, Code.to(1, 31), 11);
        wordComesTo(2, Code.leave(), 11);
    }

    private static void userCanDoAllElse() {
        for (int order : new int[] {1, 2, 3, 4, 5, 6, 7, 8, 9, 10, 11, 12, 13, 14, 15, 32, 35, 40, 43}) {
            wordComesTo(2, order << 26, 0);
        }
        wordComesTo(2, Code.k(12, 0, 0, 0), 8);
        wordComesTo(2, Code.k(13, 0, 0, 0), 9);
    }

    /** "PC is -2147483520": place 128, with bit 31, and no longer in USER. */
    private static void handlerAtItsPlace() {
        SlotCore x = Code.at(64, Code.k(12, 0, 0, 0));
        x.put(128, Code.i(9, 0, 1, 5));
        x.put(132, Code.k(12, 0, 0, 0));
        x.status(3);
        Check.is("CALL in USER", x.step(), 1);
        Check.is("its handler", x.step(), 0);
        Check.is("its handler's first", x.register(1), 5);
        Check.is("CALL there", x.step(), 1);
        Check.is("RETURN", x.look(4), -2147483516);
        Check.is("STATUS", x.look(2), 0x30);
    }
}
