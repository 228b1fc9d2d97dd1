import java.math.BigInteger;

/** A second machine, written from the document in another way: memory by bytes, numbers without bounds. */
final class Model {
    private static final BigInteger WORD = BigInteger.ONE.shiftLeft(32);

    /** An instruction comes to its exception: nothing that it did may stay. */
    private static final class Trap extends Exception {
        private static final long serialVersionUID = 1L;
        final int code;
        final boolean isBad;
        final int bad;

        Trap(int code) {
            this(code, false, 0);
        }

        Trap(int code, boolean isBad, int bad) {
            this.code = code;
            this.isBad = isBad;
            this.bad = bad;
        }
    }

    final byte[] memory = new byte[4096];
    int[] r = new int[34];
    boolean[] status = new boolean[16];
    int lines;
    int pc;
    int next = 4;
    int code;
    int soft;
    int back;
    int bad;
    int steps;
    int exceptions;
    boolean behind;
    boolean slot;
    int[] load;

    // What the instruction in hand does.
    private int[] result;
    private int[] fresh;
    private Integer target;
    private boolean branch;

    int status() {
        int all = 0;
        for (int n = 0; n < 16; n++) {
            all += status[n] ? 1 << n : 0;
        }
        return all;
    }

    void status(int v) {
        for (int n = 0; n < 16; n++) {
            status[n] = n != 6 && n != 7 && (v >> n & 1) == 1;
        }
    }

    int cause() {
        return code * 4 + soft * 256 + lines * 1024 + (behind ? Integer.MIN_VALUE : 0);
    }

    int word(int place) {
        return new BigInteger(new byte[] {memory[place], memory[place + 1], memory[place + 2], memory[place + 3]}).intValue();
    }

    void word(int place, int v) {
        for (int n = 0; n < 4; n++) {
            memory[place + n] = (byte) (v >> 24 - 8 * n);
        }
    }

    void reset() {
        r = new int[34];
        status = new boolean[16];
        lines = pc = code = soft = back = bad = steps = exceptions = 0;
        behind = false;
        go(0);
    }

    void go(int v) {
        pc = v;
        next = v + 4;
        slot = false;
        load = null;
    }

    int look(int what) {
        int[] all = {pc, next, status(), cause(), back, bad, slot ? 1 : 0, load == null ? -1 : load[0],
            load == null ? 0 : load[1], steps, exceptions};
        return all[what];
    }

    int step() {
        steps++;
        for (int n = 8; n < 16; n++) {
            if (status[0] && status[n] && (cause() >> n & 1) == 1) {
                exception(0);
                return 2;
            }
        }
        try {
            result = null;
            fresh = null;
            target = null;
            branch = false;
            instruction(fetch());
        } catch (Trap trap) {
            bad = trap.isBad ? trap.bad : bad;
            exception(trap.code);
            return 1;
        }
        landed();
        if (result != null && result[0] != 0) {
            r[result[0]] = result[1];
        }
        load = fresh;
        pc = next;
        next = target == null ? next + 4 : target;
        slot = branch;
        return 0;
    }

    private void landed() {
        if (load != null && load[0] != 0) {
            r[load[0]] = load[1];
        }
        load = null;
    }

    private void exception(int c) {
        exceptions++;
        back = slot ? pc - 4 : pc;
        behind = slot;
        code = c;
        for (int n = 5; n >= 0; n--) {
            status[n] = n >= 2 && status[n - 2];
        }
        landed();
        go(-2147483520);
    }

    private int fetch() throws Trap {
        if (pc % 4 != 0 || pc < 0 && status[1]) {
            throw new Trap(4, true, pc);
        }
        return word(place(pc, 6));
    }

    private static int place(int address, int code) throws Trap {
        int place = BigInteger.valueOf(address).mod(BigInteger.ONE.shiftLeft(29)).intValue();
        if (place > 4095) {
            throw new Trap(code);
        }
        return place;
    }

    private static int bits(int w, int from, int to) {
        return BigInteger.valueOf(w).mod(WORD).shiftRight(from).mod(BigInteger.ONE.shiftLeft(to - from + 1)).intValue();
    }

    private static BigInteger with(int v) {
        return BigInteger.valueOf(v);
    }

    private static BigInteger without(int v) {
        return with(v).mod(WORD);
    }

    private void gives(int register, int v) {
        result = new int[] {register, v};
    }

    private void exactly(int register, BigInteger v) throws Trap {
        if (v.bitLength() > 31) {
            throw new Trap(12);
        }
        gives(register, v.intValue());
    }

    private void goes(boolean really, int where) throws Trap {
        if (slot) {
            throw new Trap(10);
        }
        branch = true;
        target = really ? where : null;
    }

    private void instruction(int w) throws Trap {
        int order = bits(w, 26, 31);
        int s = r[bits(w, 21, 25)];
        int tn = bits(w, 16, 20);
        int t = r[tn];
        int u = bits(w, 0, 15);
        int i = u >= 32768 ? u - 65536 : u;
        int near = pc + 4 + 4 * i;
        if (order == 0) {
            byK(w, s, t, bits(w, 11, 15), bits(w, 6, 10));
        } else if (order == 1 && (tn == 0 || tn == 16)) {
            goes(s < 0, near);
        } else if (order == 1 && (tn == 1 || tn == 17)) {
            goes(s >= 0, near);
        } else if (order == 2 || order == 3) {
            goes(true, without(pc + 4).shiftRight(28).shiftLeft(28).intValue() + 4 * bits(w, 0, 25));
        } else if (order == 4 || order == 5) {
            goes(s == t == (order == 4), near);
        } else if (order == 6 || order == 7) {
            goes(s > 0 == (order == 7), near);
        } else if (order >= 8 && order <= 15) {
            withNumber(order, s, tn, i, u);
        } else if (order == 16) {
            control(w, bits(w, 21, 25), tn, t, bits(w, 11, 15));
        } else if (order >= 32 && order <= 38) {
            loads(order, s + i, tn);
        } else if (order >= 40 && order <= 43 || order == 46) {
            stores(order, s + i, t);
        } else {
            throw new Trap(10);
        }
        if (order == 3 || order == 1 && tn >= 16) {
            gives(31, pc + 8);
        }
    }

    private void byK(int w, int s, int t, int d, int a) throws Trap {
        int by = bits(w, 2, 2) == 1 ? bits(s, 0, 4) : a;
        switch (bits(w, 0, 5)) {
            case 0: case 4: gives(d, with(t).shiftLeft(by).intValue()); break;
            case 2: case 6: gives(d, without(t).shiftRight(by).intValue()); break;
            case 3: case 7: gives(d, with(t).shiftRight(by).intValue()); break;
            case 8: goes(true, s); break;
            case 9: goes(true, s); gives(d, pc + 8); break;
            case 12: throw new Trap(8);
            case 13: throw new Trap(9);
            case 16: gives(d, r[32]); break;
            case 17: r[32] = s; break;
            case 18: gives(d, r[33]); break;
            case 19: r[33] = s; break;
            case 24: product(with(s).multiply(with(t))); break;
            case 25: product(without(s).multiply(without(t))); break;
            case 26: quotient(with(s), with(t)); break;
            case 27: quotient(without(s), without(t)); break;
            case 32: exactly(d, with(s).add(with(t))); break;
            case 33: gives(d, with(s).add(with(t)).intValue()); break;
            case 34: exactly(d, with(s).subtract(with(t))); break;
            case 35: gives(d, with(s).subtract(with(t)).intValue()); break;
            case 36: gives(d, with(s).and(with(t)).intValue()); break;
            case 37: gives(d, with(s).or(with(t)).intValue()); break;
            case 38: gives(d, with(s).xor(with(t)).intValue()); break;
            case 39: gives(d, with(s).or(with(t)).not().intValue()); break;
            case 42: gives(d, with(s).compareTo(with(t)) < 0 ? 1 : 0); break;
            case 43: gives(d, without(s).compareTo(without(t)) < 0 ? 1 : 0); break;
            default: throw new Trap(10);
        }
    }

    private void product(BigInteger v) {
        r[32] = v.shiftRight(32).intValue();
        r[33] = v.intValue();
    }

    private void quotient(BigInteger s, BigInteger t) {
        boolean none = t.signum() == 0;
        r[32] = (none ? s : s.remainder(t)).intValue();
        r[33] = none ? (s.signum() < 0 ? 1 : -1) : s.divide(t).intValue();
    }

    private void withNumber(int order, int s, int tn, int i, int u) throws Trap {
        switch (order) {
            case 8: exactly(tn, with(s).add(with(i))); break;
            case 9: gives(tn, with(s).add(with(i)).intValue()); break;
            case 10: gives(tn, with(s).compareTo(with(i)) < 0 ? 1 : 0); break;
            case 11: gives(tn, without(s).compareTo(without(i)) < 0 ? 1 : 0); break;
            case 12: gives(tn, with(s).and(with(u)).intValue()); break;
            case 13: gives(tn, with(s).or(with(u)).intValue()); break;
            case 14: gives(tn, with(s).xor(with(u)).intValue()); break;
            default: gives(tn, u * 65536); break;
        }
    }

    private void control(int w, int kind, int tn, int t, int d) throws Trap {
        boolean leaves = kind == 16 && bits(w, 0, 5) == 16;
        if (kind != 0 && kind != 4 && !leaves) {
            throw new Trap(10);
        }
        if (status[1]) {
            throw new Trap(11);
        }
        if (leaves) {
            System.arraycopy(status, 2, status, 0, 4);
        } else if (kind == 0) {
            fresh = new int[] {tn, d == 12 ? status() : d == 13 ? cause() : d == 14 ? back : d == 8 ? bad : 0};
        } else if (d == 12) {
            status(t);
        } else if (d == 13) {
            soft = bits(t, 8, 9);
        } else if (d == 14) {
            back = t;
        }
    }

    private int reached(int address, int unit, int wrong) throws Trap {
        if (address % unit != 0 || address < 0 && status[1]) {
            throw new Trap(wrong, true, address);
        }
        return place(address, 7);
    }

    private void loads(int order, int address, int tn) throws Trap {
        int unit = order == 35 ? 4 : order == 33 || order == 37 ? 2 : 1;
        int place = reached(address, unit, 4);
        int start = place / 4 * 4;
        byte[] v = BigInteger.valueOf(load != null && load[0] == tn ? load[1] : r[tn]).add(WORD.multiply(WORD)).toByteArray();
        byte[] t = {v[5], v[6], v[7], v[8]};
        if (order == 34) {
            System.arraycopy(memory, place, t, 0, start + 4 - place);
        } else if (order == 38) {
            System.arraycopy(memory, start, t, 3 - (place - start), place - start + 1);
        } else {
            boolean negative = memory[place] < 0 && order < 36;
            for (int n = 0; n < 4; n++) {
                t[n] = n >= 4 - unit ? memory[place + n - (4 - unit)] : (byte) (negative ? -1 : 0);
            }
        }
        fresh = new int[] {tn, new BigInteger(t).intValue()};
    }

    private void stores(int order, int address, int t) throws Trap {
        int unit = order == 43 ? 4 : order == 41 ? 2 : 1;
        int place = reached(address, unit, 5);
        int start = place / 4 * 4;
        byte[] v = {(byte) (t >> 24), (byte) (t >> 16), (byte) (t >> 8), (byte) t};
        if (order == 42) {
            System.arraycopy(v, 0, memory, place, start + 4 - place);
        } else if (order == 46) {
            System.arraycopy(v, 3 - (place - start), memory, start, place - start + 1);
        } else {
            System.arraycopy(v, 4 - unit, memory, place, unit);
        }
    }
}
