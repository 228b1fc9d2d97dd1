import java.math.BigInteger;

/** The edges of the arithmetic: every pair of values at an edge, against numbers without bounds. */
public final class NumberEdgesTest {
    private static final int LEAST = Integer.MIN_VALUE;
    private static final int MOST = Integer.MAX_VALUE;
    private static final int[] EDGES = {
        0, 1, 2, 3, 7, -1, -2, -3, -7, 31, 32, 33, 32766, 32767, 32768, 65535, 65536, -32767, -32768, -32769, MOST,
        MOST - 1, MOST - 32766, MOST - 32767, MOST - 32768, LEAST, LEAST + 1, LEAST + 32767, LEAST + 32768, LEAST + 32769};
    private static final int[] NUMBERS = {0, 1, 2, -1, -2, 32766, 32767, -32767, -32768};
    private static final BigInteger WORD = BigInteger.ONE.shiftLeft(32);
    private static final int D = 12345;

    public static void main(String[] args) {
        for (int s : EDGES) {
            for (int t : EDGES) {
                sums(s, t);
                bits(s, t);
                comparisons(s, t);
                products(s, t);
                quotients(s, t);
            }
            for (int i : NUMBERS) {
                numbers(s, i);
            }
            shifts(s);
            moves(s);
        }
        firstThatIsNotExact();
        quotientsAsTold();
        highAndLowStay();
        Check.end();
    }

    private static BigInteger with(int v) {
        return BigInteger.valueOf(v);
    }

    private static BigInteger without(int v) {
        return with(v).mod(WORD);
    }

    /** Register 1 is S, register 2 T, register 3 D. */
    private static SlotCore machine(int w, int s, int t) {
        SlotCore x = Code.at(64, w);
        x.set(1, s);
        x.set(2, t);
        x.set(3, D);
        x.set(32, 111);
        x.set(33, 222);
        return x;
    }

    private static void gives(int w, int s, int t, int want) {
        String what = Integer.toHexString(w) + " of " + s + ", " + t;
        SlotCore x = machine(w, s, t);
        Check.is(what, x.step(), 0);
        Check.is(what + ": D", x.register(3), want);
        Check.is(what + ": no exception", x.look(3), 0);
    }

    private static void isNotExact(int w, int s, int t) {
        String what = Integer.toHexString(w) + " of " + s + ", " + t;
        SlotCore x = machine(w, s, t);
        Check.is(what, x.step(), 1);
        Check.is(what + ": D stays", x.register(3), D);
        Check.looks(what, x, Code.HANDLER, Code.HANDLER + 4, 0, 12 << 2, 64, 0, 0, SlotCore.NONE, 0, 1, 1);
    }

    private static void exactly(int w, int s, int t, BigInteger want) {
        if (want.bitLength() > 31) {
            isNotExact(w, s, t);
        } else {
            gives(w, s, t, want.intValue());
        }
    }

    /** "32, 34 D = S + T, S - T (12, if it is not exact with sign); 33, 35 the same without exception." */
    private static void sums(int s, int t) {
        exactly(Code.k(32, 1, 2, 3), s, t, with(s).add(with(t)));
        exactly(Code.k(34, 1, 2, 3), s, t, with(s).subtract(with(t)));
        gives(Code.k(33, 1, 2, 3), s, t, with(s).add(with(t)).intValue());
        gives(Code.k(35, 1, 2, 3), s, t, with(s).subtract(with(t)).intValue());
    }

    /** "36 .. 39 and, or, exclusive or, neither." */
    private static void bits(int s, int t) {
        gives(Code.k(36, 1, 2, 3), s, t, with(s).and(with(t)).intValue());
        gives(Code.k(37, 1, 2, 3), s, t, with(s).or(with(t)).intValue());
        gives(Code.k(38, 1, 2, 3), s, t, with(s).xor(with(t)).intValue());
        gives(Code.k(39, 1, 2, 3), s, t, with(s).or(with(t)).not().intValue());
    }

    /** "42, 43 D = 1 if S < T, else 0, with sign and without." */
    private static void comparisons(int s, int t) {
        gives(Code.k(42, 1, 2, 3), s, t, with(s).compareTo(with(t)) < 0 ? 1 : 0);
        gives(Code.k(43, 1, 2, 3), s, t, without(s).compareTo(without(t)) < 0 ? 1 : 0);
    }

    private static void highLow(int k, int s, int t, BigInteger high, BigInteger low) {
        String what = "K " + k + " of " + s + ", " + t;
        SlotCore x = machine(Code.k(k, 1, 2, 3), s, t);
        Check.is(what, x.step(), 0);
        Check.is(what + ": HIGH", x.register(32), high.intValue());
        Check.is(what + ": LOW", x.register(33), low.intValue());
        Check.is(what + ": D stays", x.register(3), D);
    }

    private static void products(int s, int t) {
        BigInteger signed = with(s).multiply(with(t));
        highLow(24, s, t, signed.shiftRight(32), signed);
        BigInteger unsigned = without(s).multiply(without(t));
        highLow(25, s, t, unsigned.shiftRight(32), unsigned);
    }

    private static void quotients(int s, int t) {
        if (t == 0) {
            highLow(26, s, t, with(s), with(s < 0 ? 1 : -1));
            highLow(27, s, t, with(s), with(-1));
        } else {
            highLow(26, s, t, with(s).remainder(with(t)), with(s).divide(with(t)));
            highLow(27, s, t, without(s).remainder(without(t)), without(s).divide(without(t)));
        }
    }

    /** Orders 8 .. 15: I from -32768 to 32767, U from 0 to 65535. */
    private static void numbers(int s, int i) {
        int u = i & 65535;
        exactly(Code.i(8, 1, 3, i), s, 0, with(s).add(with(i)));
        gives(Code.i(9, 1, 3, i), s, 0, with(s).add(with(i)).intValue());
        gives(Code.i(10, 1, 3, i), s, 0, with(s).compareTo(with(i)) < 0 ? 1 : 0);
        gives(Code.i(11, 1, 3, i), s, 0, without(s).compareTo(without(i)) < 0 ? 1 : 0);
        gives(Code.i(12, 1, 3, i), s, 0, with(s).and(with(u)).intValue());
        gives(Code.i(13, 1, 3, i), s, 0, with(s).or(with(u)).intValue());
        gives(Code.i(14, 1, 3, i), s, 0, with(s).xor(with(u)).intValue());
        gives(Code.i(15, 1, 3, i), s, 0, with(u).shiftLeft(16).intValue());
    }

    /** By A, 0 .. 31, and "by S's lowest five bits", whatever is above them. */
    private static void shifts(int v) {
        for (int by : new int[] {0, 1, 15, 16, 30, 31}) {
            shiftsBy(v, by, Code.k(0, 1, 2, 3, by), Code.k(2, 1, 2, 3, by), Code.k(3, 1, 2, 3, by), -1);
            for (int s : new int[] {by, by + 32, by - 32, by + 1024, by + LEAST, by + (MOST - 31)}) {
                shiftsBy(v, by, Code.k(4, 1, 2, 3, 9), Code.k(6, 1, 2, 3, 9), Code.k(7, 1, 2, 3, 9), s);
            }
        }
    }

    private static void shiftsBy(int v, int by, int left, int right, int withSign, int s) {
        gives(left, s, v, with(v).shiftLeft(by).intValue());
        gives(right, s, v, without(v).shiftRight(by).intValue());
        gives(withSign, s, v, with(v).shiftRight(by).intValue());
    }

    /** "16, 18 D = HIGH, LOW; 17, 19 HIGH, LOW = S." */
    private static void moves(int v) {
        SlotCore x = Code.at(64, Code.k(17, 1, 0, 0), Code.k(19, 2, 0, 0), Code.k(16, 0, 0, 3), Code.k(18, 0, 0, 4));
        x.set(1, v);
        x.set(2, ~v);
        Check.is("moves of " + v, x.run(4), 0);
        Check.is("HIGH of " + v, x.register(32), v);
        Check.is("LOW of " + v, x.register(33), ~v);
        Check.is("D from HIGH", x.register(3), v);
        Check.is("D from LOW", x.register(4), ~v);
    }

    private static void firstThatIsNotExact() {
        gives(Code.k(32, 1, 2, 3), MOST - 1, 1, MOST);
        isNotExact(Code.k(32, 1, 2, 3), MOST, 1);
        gives(Code.k(33, 1, 2, 3), MOST, 1, LEAST);
        gives(Code.k(32, 1, 2, 3), LEAST + 1, -1, LEAST);
        isNotExact(Code.k(32, 1, 2, 3), LEAST, -1);
        gives(Code.k(33, 1, 2, 3), LEAST, -1, MOST);
        gives(Code.k(34, 1, 2, 3), -1, LEAST, MOST);
        isNotExact(Code.k(34, 1, 2, 3), 0, LEAST);
        gives(Code.k(35, 1, 2, 3), 0, LEAST, LEAST);
        gives(Code.i(8, 1, 3, 32767), MOST - 32767, 0, MOST);
        isNotExact(Code.i(8, 1, 3, 32767), MOST - 32766, 0);
        gives(Code.i(9, 1, 3, 32767), MOST - 32766, 0, LEAST);
        gives(Code.i(8, 1, 3, -32768), LEAST + 32768, 0, LEAST);
        isNotExact(Code.i(8, 1, 3, -32768), LEAST + 32767, 0);
        gives(Code.i(9, 1, 3, -32768), LEAST + 32767, 0, MOST);
    }

    /** "By 0, LOW is -1 (with sign and S < 0: 1), HIGH is S; -2147483648 / -1: LOW is that, HIGH 0." */
    private static void quotientsAsTold() {
        quotientIs(26, 0, 0, 0, -1);
        quotientIs(26, 1, 0, 1, -1);
        quotientIs(26, MOST, 0, MOST, -1);
        quotientIs(26, -1, 0, -1, 1);
        quotientIs(26, LEAST, 0, LEAST, 1);
        quotientIs(27, 0, 0, 0, -1);
        quotientIs(27, MOST, 0, MOST, -1);
        quotientIs(27, -1, 0, -1, -1);
        quotientIs(27, LEAST, 0, LEAST, -1);
        quotientIs(26, -2147483648, -1, 0, -2147483648);
        quotientIs(26, -2147483647, -1, 0, 2147483647);
        quotientIs(27, -2147483648, -1, -2147483648, 0);
        quotientIs(27, -1, -1, 0, 1);
        quotientIs(26, -7, 2, -1, -3);
        quotientIs(26, 7, -2, 1, -3);
    }

    private static void quotientIs(int k, int s, int t, int high, int low) {
        highLow(k, s, t, with(high), with(low));
    }

    /** Only products, quotients and 17 and 19 change them; each of these two changes one. */
    private static void highAndLowStay() {
        SlotCore x = machine(Code.k(17, 1, 2, 3), MOST, 5);
        x.step();
        Check.is("17: HIGH", x.register(32), MOST);
        Check.is("17: LOW", x.register(33), 222);
        SlotCore y = machine(Code.k(19, 1, 2, 3), LEAST, 5);
        y.step();
        Check.is("19: HIGH", y.register(32), 111);
        Check.is("19: LOW", y.register(33), LEAST);
        SlotCore z = machine(Code.k(32, 1, 2, 3), MOST, 5);
        z.step();
        Check.is("12: HIGH", z.register(32), 111);
        Check.is("12: LOW", z.register(33), 222);
    }
}
