/** Promises 22 to 25: image, from, status, digest. */
public final class ImagesTest {
    private static final Check CHECK = new Check();

    public static void main(String[] args) {
        goesOnFromAnImage();
        twoImages();
        statusIsNotKept();
        turnsAreKept();
        dropsAreKept();
        wayIsKept();
        status();
        digestOfANewOne();
        digestOfAll();
        wrongInputs();
        CHECK.end();
    }

    private static void changeAll(SwingYard x) {
        for (int i = 0; i < 8; i++) {
            x.put(i, i == 5 ? -40 : i == 0 || i == 7 ? 333 : 3);
        }
        Check.law(x, "1+");
        x.rest();
        x.push(3, 3);
        x.begin(-999);
        x.tick(33);
    }

    private static void goesOnFromAnImage() {
        SwingYard x = Check.amid(60);
        SwingYard twin = Check.amid(60);
        long then = x.digest();
        CHECK.due("image(0)", x.image(0), 1);
        CHECK.due("digest() behind image", x.digest(), then);
        changeAll(x);
        CHECK.due("all is changed", x.digest() != then ? 1 : 0, 1);
        CHECK.due("from(0)", x.from(0), 1);
        CHECK.due("digest() behind from", x.digest(), then);
        CHECK.due("fault() behind from", x.fault(), -1);
        CHECK.due("PUSHES behind from", x.status(3), 2);
        CHECK.due("tick(100) behind from", x.tick(100), twin.tick(100));
        CHECK.due("digest() further on", x.digest(), twin.digest());
        CHECK.due("from(0) again", x.from(0), 1);
        CHECK.due("digest() behind from again", x.digest(), then);
    }

    private static void twoImages() {
        SwingYard x = Check.amid(60);
        long first = x.digest();
        x.image(1);
        changeAll(x);
        long second = x.digest();
        CHECK.refused(x, "from(0), none", y -> y.from(0), -3, 1);
        x.image(0);
        CHECK.due("from(1)", x.from(1), 1);
        CHECK.due("digest() of 1", x.digest(), first);
        CHECK.due("from(0)", x.from(0), 1);
        CHECK.due("digest() of 0", x.digest(), second);
        CHECK.due("fault() of 0", x.fault(), 21);
        // an image does not keep images: 1 is now what 0 was, and stays so
        x.image(1);
        x.from(0);
        x.from(1);
        CHECK.due("digest() of 1, kept anew", x.digest(), second);
    }

    private static void statusIsNotKept() {
        SwingYard x = Check.amid(60);
        x.tick(0);
        x.image(0);
        x.tick(0);
        x.from(1);
        x.from(0);
        CHECK.due("status(0) behind from", x.status(0), 2);
        CHECK.due("status(1) behind from", x.status(1), 1);
    }

    private static void turnsAreKept() {
        SwingYard x = Check.swing(50, 9, 1);
        x.begin(600000);
        x.tick(400);
        int[] turns = new int[40];
        for (int i = 0; i < 40; i++) {
            turns[i] = x.turn(i);
        }
        x.image(0);
        x.tick(500);
        x.begin(3);
        x.from(0);
        for (int i = 0; i < 40; i++) {
            CHECK.due("turn(" + i + ") behind from", x.turn(i), turns[i]);
        }
    }

    private static void dropsAreKept() {
        SwingYard x = Check.swing(400, 1, 0);
        x.push(0, 30000);
        x.begin(990000);
        x.tick(1);
        x.image(1);
        x.begin(0);
        x.from(1);
        CHECK.told(x, "drops behind from", 1000000, 0, 0, 1, 1000000, 1, 1, 0, 1, 17525);
    }

    /** Between two ticks the way it went is kept too: the turn that comes is seen. */
    private static void wayIsKept() {
        SwingYard x = Check.swing(50, 9, 0);
        x.begin(50);
        x.tick(7);
        x.image(0);
        x.begin(0);
        x.from(0);
        x.tick(1);
        CHECK.due("TURNS behind from", x.told(6), 1);
        CHECK.due("turn(0) behind from", x.turn(0), 47);
    }

    private static void status() {
        SwingYard x = new SwingYard();
        CHECK.bad(x, "status(-1)", y -> y.status(-1), -1);
        CHECK.bad(x, "status(4)", y -> y.status(4), -1);
        CHECK.bad(x, "status(MIN)", y -> y.status(Integer.MIN_VALUE), -1);
        CHECK.bad(x, "status(MAX)", y -> y.status(Integer.MAX_VALUE), -1);
        CHECK.due("status(0)", x.status(0), 4);
        CHECK.due("status(1)", x.status(1), 0);
        CHECK.due("status(2)", x.status(2), 0);
        CHECK.due("status(3)", x.status(3), 0);
        x.push(1, 1);
        CHECK.due("status(3) with a push", x.status(3), 1);
        // answers of NONE are no refusals
        x.fault();
        x.turn(5);
        x.begins();
        x.simplest(1);
        CHECK.due("status(0) is as it was", x.status(0), 4);
    }

    private static long digestOf(long... values) {
        long h = 487;
        for (long v : values) {
            h = 31 * h + v;
        }
        return h;
    }

    private static void digestOfANewOne() {
        long[] values = new long[8 + 1 + 12 + 40];
        long[] first = {200, 2, 1, 2, 3, 0, 0, 200};
        System.arraycopy(first, 0, values, 0, 8);
        for (int i = 21; i < values.length; i++) {
            values[i] = -1;
        }
        CHECK.due("digest() of a new one", new SwingYard().digest(), digestOf(values));
    }

    private static void digestOfAll() {
        SwingYard x = Check.swing(50, 9, 0, 3, 2, -7, 4, 66);
        x.write('k');
        x.write('+');
        x.push(2, -5);
        x.push(0, 6);
        x.push(9999, 7);
        x.begin(50);
        x.tick(44);
        long[] values = new long[8 + 3 + 6 + 12 + 40];
        long[] head = {50, 9, 0, 3, 2, -7, 4, 66, 2, 'k', '+', 2, -5, 0, 6, 9999, 7};
        System.arraycopy(head, 0, values, 0, head.length);
        for (int i = 0; i < 12; i++) {
            values[head.length + i] = x.told(i);
        }
        for (int i = 0; i < 40; i++) {
            values[head.length + 12 + i] = x.turn(i);
        }
        CHECK.due("there are turns", x.told(6) > 2 ? 1 : 0, 1);
        CHECK.due("digest() of all", x.digest(), digestOf(values));
        x.tick(0);
        CHECK.due("digest() is without STATUS", x.digest(), digestOf(values));
        x.image(0);
        CHECK.due("digest() is without IMAGES", x.digest(), digestOf(values));
    }

    private static void wrongInputs() {
        SwingYard x = Check.amid(60);
        for (int wrong : new int[] {-1, 2, Integer.MIN_VALUE, Integer.MAX_VALUE}) {
            CHECK.bad(x, "image(" + wrong + ")", y -> y.image(wrong), -2);
            CHECK.bad(x, "from(" + wrong + ")", y -> y.from(wrong), -2);
        }
        CHECK.refused(x, "from(0), none", y -> y.from(0), -3, 1);
        CHECK.refused(x, "from(1), none", y -> y.from(1), -3, 1);
    }
}
