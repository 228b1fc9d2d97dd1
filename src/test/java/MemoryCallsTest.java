/** Promise 3, put, and promise 4, word. */
public final class MemoryCallsTest {
    // An object is good for 512 calls: it is asked for every 16th word.
    private static final int STRIDE = 64;
    private static final int[] NO_PLACES = {
        -4, -1, 1, 2, 3, 5, 4093, 4094, 4095, 4096, 4097, 4100, 0x20000000, 0x7FFFFFFC, 0x80000000, 0xFFFFFFFC};

    public static void main(String[] args) {
        for (int first = 0; first < STRIDE; first += 4) {
            everyPlaceFrom(first);
        }
        wordsAndBytes();
        wrongPlaces();
        Check.end();
    }

    private static void everyPlaceFrom(int first) {
        SlotCore x = new SlotCore();
        for (int place = first; place < 4096; place += STRIDE) {
            Check.is("put " + place, x.put(place, place * 77777 - 1), 0);
        }
        for (int place = first; place < 4096; place += STRIDE) {
            Check.is("word " + place, x.word(place), place * 77777 - 1);
            Check.is("put again " + place, x.put(place, ~place), place * 77777 - 1);
            Check.is("word again " + place, x.word(place), ~place);
        }
        Check.is("steps", x.look(9), 0);
    }

    private static void wordsAndBytes() {
        SlotCore x = Code.machine(Code.i(36, 0, 1, 256), Code.i(36, 0, 2, 259), Code.nothing());
        x.put(256, 0x81828384);
        x.run(3);
        Check.is("the byte with the lowest place is the highest", x.register(1), 0x81);
        Check.is("the byte with the highest place is the lowest", x.register(2), 0x84);
    }

    private static void wrongPlaces() {
        SlotCore x = new SlotCore();
        for (int place = 0; place < 4096; place += STRIDE) {
            x.put(place, 9);
        }
        x.put(4092, 9);
        for (int place : NO_PLACES) {
            Check.noSuchElement("put " + place, () -> x.put(place, 1));
            Check.noSuchElement("word " + place, () -> x.word(place));
        }
        for (int place = 0; place < 4096; place += STRIDE) {
            Check.is("unchanged " + place, x.word(place), 9);
        }
        Check.is("unchanged 4092", x.word(4092), 9);
        Check.same("unchanged", x, new SlotCore());
    }
}
