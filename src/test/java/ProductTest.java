/** Promise 10, step: products and quotients, HIGH and LOW. */
public final class ProductTest {
    private static final int LEAST = Integer.MIN_VALUE;
    private static final int MOST = Integer.MAX_VALUE;

    public static void main(String[] args) {
        products();
        quotients();
        moves();
        Check.end();
    }

    private static void gives(int k, int s, int t, int high, int low) {
        SlotCore x = Code.two(s, t, Code.k(k, 1, 2, 5));
        x.set(32, 111);
        x.set(33, 222);
        x.set(5, 333);
        Check.is("K " + k + " step", x.step(), 0);
        Check.is("K " + k + " HIGH of " + s + ", " + t, x.register(32), high);
        Check.is("K " + k + " LOW of " + s + ", " + t, x.register(33), low);
        Check.is("D stays", x.register(5), 333);
    }

    private static void products() {
        gives(24, 6, 7, 0, 42);
        gives(24, -6, 7, -1, -42);
        gives(24, -6, -7, 0, 42);
        gives(24, LEAST, LEAST, 0x40000000, 0);
        gives(24, LEAST, MOST, 0xC0000000, LEAST);
        gives(24, MOST, MOST, 0x3FFFFFFF, 1);
        gives(25, 6, 7, 0, 42);
        gives(25, -6, 7, 6, -42);
        gives(25, -1, -1, -2, 1);
        gives(25, LEAST, LEAST, 0x40000000, 0);
        gives(25, LEAST, 2, 1, 0);
    }

    private static void quotients() {
        gives(26, 7, 2, 1, 3);
        gives(26, -7, 2, -1, -3);
        gives(26, 7, -2, 1, -3);
        gives(26, -7, -2, -1, 3);
        gives(26, LEAST, -1, 0, LEAST);
        gives(26, LEAST, 1, 0, LEAST);
        gives(26, MOST, -1, 0, -MOST);
        gives(26, 5, 0, 5, -1);
        gives(26, 0, 0, 0, -1);
        gives(26, -5, 0, -5, 1);
        gives(26, -1, 0, -1, 1);
        gives(26, LEAST, 0, LEAST, 1);
        gives(27, 7, 2, 1, 3);
        gives(27, -7, 2, 1, 0x7FFFFFFC);
        gives(27, 7, -2, 7, 0);
        gives(27, -1, -2, 1, 1);
        gives(27, LEAST, -1, LEAST, 0);
        gives(27, 5, 0, 5, -1);
        gives(27, -5, 0, -5, -1);
        gives(27, -1, 1, 0, -1);
    }

    private static void moves() {
        SlotCore x = Code.two(70, 80, Code.k(17, 1, 2, 5), Code.k(19, 2, 1, 5), Code.k(16, 1, 1, 3), Code.k(18, 1, 1, 4));
        x.step();
        Check.is("HIGH = S", x.register(32), 70);
        Check.is("LOW stays", x.register(33), 0);
        x.step();
        Check.is("HIGH stays", x.register(32), 70);
        Check.is("LOW = S", x.register(33), 80);
        x.step();
        Check.is("D = HIGH", x.register(3), 70);
        x.step();
        Check.is("D = LOW", x.register(4), 80);
        Check.is("no other register", x.register(5), 0);
        Check.is("no exception", x.look(10), 0);
    }
}
