/**
 * The edges of memory: the first and the last place, what lies beside them, and addresses that wrap around. In each test
 * the instruction stands at 64, register 1 is S, register 2 is T.
 */
public final class MemoryEdgesTest {
    private static final int T = 0xA1A2A3A4;
    private static final int FIRST = 0x81828384;
    private static final int LAST = 0x91929394;
    private static final int NOT_IN_MEMORY = -1;
    private static final int FINE = -1;

    public static void main(String[] args) {
        everyByteIsInMemory();
        bytesAtTheEnds();
        halvesAtTheEnds();
        wordsAtTheEnds();
        piecesAtTheEnds();
        highestByteFirst();
        lowest29Bits();
        putAndWordTakePlacesNotAddresses();
        addressesWrapAround();
        leastAndGreatestDistance();
        addressesWrapInUser();
        Check.end();
    }

    private static SlotCore about(int order, int s, int i) {
        SlotCore x = Code.at(64, Code.i(order, 1, 2, i), Code.nothing());
        x.put(0, FIRST);
        x.put(4, 44);
        x.put(4088, 4088);
        x.put(4092, LAST);
        x.set(1, s);
        x.set(2, T);
        return x;
    }

    private static void loads(int order, int address, int want) {
        SlotCore x = about(order, address, 0);
        String what = "load " + order + " from " + address;
        Check.is(what, x.step(), 0);
        Check.is(what + ": for", x.look(7), 2);
        Check.is(what + ": value", x.look(8), want);
        x.step();
        Check.is(what + ": T", x.register(2), want);
        endsAre(what, x, FIRST, LAST);
    }

    private static void stores(int order, int address, int first, int last) {
        SlotCore x = about(order, address, 0);
        String what = "store " + order + " to " + address;
        Check.is(what, x.step(), 0);
        endsAre(what, x, first, last);
        Check.is(what + ": T", x.register(2), T);
    }

    /** Comes to an exception 7, and BAD stays what it was. */
    private static void isOutside(int order, int address) {
        SlotCore x = about(order, address, 0);
        x.go(5);
        x.step();
        x.go(64);
        String what = "order " + order + " outside at " + address;
        Check.is(what, x.step(), 1);
        Check.is(what + ": code", x.look(3), 7 << 2);
        Check.is(what + ": RETURN", x.look(4), 64);
        Check.is(what + ": BAD", x.look(5), 5);
        Check.is(what + ": none waits", x.look(7), SlotCore.NONE);
        Check.is(what + ": T", x.register(2), T);
        endsAre(what, x, FIRST, LAST);
    }

    private static void endsAre(String what, SlotCore x, int first, int last) {
        Check.is(what + ": the first word", x.word(0), first);
        Check.is(what + ": the word behind it", x.word(4), 44);
        Check.is(what + ": the last word", x.word(4092), last);
        Check.is(what + ": the word ahead of it", x.word(4088), 4088);
    }

    /** "MEMORY is 4096 BYTES, places 0 .. 4095." */
    private static void everyByteIsInMemory() {
        for (int place = 0; place < 4096; place++) {
            int here = place >= 32 && place < 96 ? 1024 : 64;
            SlotCore x = Code.at(here, Code.i(40, 1, 2, 0), Code.i(36, 1, 3, 0));
            x.set(1, place);
            x.set(2, 0x101 + place % 200);
            Check.is("byte " + place, x.run(2), 0);
            Check.is("byte " + place + " is loaded", x.look(8), 1 + place % 200);
            int shift = 24 - 8 * (place % 4);
            Check.is("the word of byte " + place, x.word(place / 4 * 4), 1 + place % 200 << shift);
        }
    }

    private static void bytesAtTheEnds() {
        loads(32, 0, 0xFFFFFF81);
        loads(36, 0, 0x81);
        loads(32, 4095, 0xFFFFFF94);
        loads(36, 4095, 0x94);
        stores(40, 0, 0xA4828384, LAST);
        stores(40, 4095, FIRST, 0x919293A4);
        for (int order : new int[] {32, 36, 40}) {
            isOutside(order, -1);
            isOutside(order, 4096);
        }
    }

    private static void halvesAtTheEnds() {
        loads(33, 0, 0xFFFF8182);
        loads(37, 0, 0x8182);
        loads(33, 4094, 0xFFFF9394);
        loads(37, 4094, 0x9394);
        stores(41, 0, 0xA3A48384, LAST);
        stores(41, 4094, FIRST, 0x9192A3A4);
        for (int order : new int[] {33, 37, 41}) {
            isOutside(order, -2);
            isOutside(order, 4096);
        }
    }

    private static void wordsAtTheEnds() {
        loads(35, 0, FIRST);
        loads(35, 4092, LAST);
        stores(43, 0, T, LAST);
        stores(43, 4092, FIRST, T);
        for (int order : new int[] {35, 43}) {
            isOutside(order, -4);
            isOutside(order, 4096);
        }
    }

    /** Orders 34, 38, 42 and 46 stay in the word that the address lies in, at memory's ends, too. */
    private static void piecesAtTheEnds() {
        loads(34, 0, FIRST);
        loads(34, 3, 0x84A2A3A4);
        loads(34, 4092, LAST);
        loads(34, 4095, 0x94A2A3A4);
        loads(38, 0, 0xA1A2A381);
        loads(38, 3, FIRST);
        loads(38, 4092, 0xA1A2A391);
        loads(38, 4095, LAST);
        stores(42, 0, T, LAST);
        stores(42, 3, 0x818283A1, LAST);
        stores(42, 4092, FIRST, T);
        stores(42, 4095, FIRST, 0x919293A1);
        stores(46, 0, 0xA4828384, LAST);
        stores(46, 3, T, LAST);
        stores(46, 4092, FIRST, 0xA4929394);
        stores(46, 4095, FIRST, T);
        for (int order : new int[] {34, 38, 42, 46}) {
            isOutside(order, -1);
            isOutside(order, -4);
            isOutside(order, 4096);
            isOutside(order, 4099);
        }
    }

    /** "In a HALF and a WORD the byte with the lowest place is the highest." */
    private static void highestByteFirst() {
        SlotCore x = Code.at(64, Code.i(41, 0, 2, 256), Code.i(43, 0, 2, 260), Code.i(37, 0, 3, 262), Code.nothing());
        x.set(2, T);
        x.run(4);
        Check.is("a half", x.word(256), 0xA3A40000);
        Check.is("a word", x.word(260), T);
        Check.is("the half of a word", x.register(3), 0xA3A4);
        int[] bytes = {0xA3, 0xA4, 0, 0, 0xA1, 0xA2, 0xA3, 0xA4};
        for (int n = 0; n < bytes.length; n++) {
            x.put(128, Code.i(36, 0, 4, 256 + n));
            x.go(128);
            x.step();
            Check.is("the byte at " + (256 + n), x.look(8), bytes[n]);
        }
    }

    /** "The PLACE of an ADDRESS (32 bits, without sign) is its lowest 29 bits." */
    private static void lowest29Bits() {
        for (int high = 0; high < 8; high++) {
            int base = high << 29;
            loads(36, base, 0x81);
            loads(36, base + 4095, 0x94);
            loads(35, base + 4092, LAST);
            stores(40, base, 0xA4828384, LAST);
            stores(40, base + 4095, FIRST, 0x919293A4);
            isOutside(36, base + 4096);
            isOutside(40, base + 4096);
            isOutside(36, base - 1);
            isOutside(40, base - 1);
        }
        for (int bit = 12; bit < 29; bit++) {
            isOutside(35, 1 << bit);
            isOutside(43, 1 << bit);
        }
    }

    private static void putAndWordTakePlacesNotAddresses() {
        SlotCore x = new SlotCore();
        for (int high = 1; high < 8; high++) {
            int base = high << 29;
            Check.noSuchElement("put " + base, () -> x.put(base, 1));
            Check.noSuchElement("word " + base, () -> x.word(base));
        }
        Check.is("the first word", x.word(0), 0);
    }

    private static void addressIs(int s, int i, int loaded) {
        SlotCore x = about(36, s, i);
        String what = s + " + " + i;
        Check.is(what, x.step(), loaded == NOT_IN_MEMORY ? 1 : 0);
        Check.is(what + ": loaded", x.look(8), loaded == NOT_IN_MEMORY ? 0 : loaded);
        Check.is(what + ": code", Code.code(x), loaded == NOT_IN_MEMORY ? 7 : 0);
    }

    private static void addressesWrapAround() {
        addressIs(-1, 1, 0x81);
        addressIs(-1, 4096, 0x94);
        addressIs(-32767, 32767, 0x81);
        addressIs(Integer.MAX_VALUE, 1, 0x81);
        addressIs(Integer.MAX_VALUE, 2, 0x82);
        addressIs(Integer.MAX_VALUE, 4096, 0x94);
        addressIs(0x80001000, -1, 0x94);
        addressIs(Integer.MIN_VALUE, -1, NOT_IN_MEMORY);
        addressIs(0, -1, NOT_IN_MEMORY);
        addressIs(-1, 0, NOT_IN_MEMORY);
        addressIs(-1, 4097, NOT_IN_MEMORY);
        addressIs(Integer.MAX_VALUE, 4097, NOT_IN_MEMORY);
    }

    /** "I bits 0 .. 15 with sign": from -32768 to 32767. */
    private static void leastAndGreatestDistance() {
        addressIs(32768, -32768, 0x81);
        addressIs(32768 + 4095, -32768, 0x94);
        addressIs(32768 + 4096, -32768, NOT_IN_MEMORY);
        addressIs(32767, -32768, NOT_IN_MEMORY);
        addressIs(-32767 + 4095, 32767, 0x94);
        addressIs(-32767 + 4096, 32767, NOT_IN_MEMORY);
        addressIs(-32768, 32767, NOT_IN_MEMORY);
        addressIs(0, -32768, NOT_IN_MEMORY);
        addressIs(0, 32767, NOT_IN_MEMORY);
    }

    /** "Bit 31 in USER" is that of the sum. */
    private static void addressesWrapInUser() {
        userComesTo(35, Integer.MAX_VALUE - 3, 4, 4, Integer.MIN_VALUE);
        userComesTo(43, Integer.MAX_VALUE - 3, 4, 5, Integer.MIN_VALUE);
        userComesTo(36, 0, -1, 4, -1);
        userComesTo(40, 0, -1, 5, -1);
        userComesTo(36, Integer.MIN_VALUE, -1, 7, 0);
        userComesTo(40, Integer.MIN_VALUE, -1, 7, 0);
        userComesTo(36, -1, 1, FINE, 0);
        userComesTo(40, -1, 1, FINE, 0);
        userComesTo(36, 0x60000FFF, 0, FINE, 0);
        userComesTo(36, Integer.MAX_VALUE, 0, 7, 0);
    }

    private static void userComesTo(int order, int s, int i, int code, int bad) {
        SlotCore x = about(order, s, i);
        x.status(2);
        String what = "in USER order " + order + " at " + s + " + " + i;
        Check.is(what, x.step(), code == FINE ? 0 : 1);
        Check.is(what + ": code", Code.code(x), code == FINE ? 0 : code);
        Check.is(what + ": BAD", x.look(5), bad);
    }
}
