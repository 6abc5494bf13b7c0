import java.math.BigInteger;
import java.util.Arrays;
import java.util.function.Consumer;

/**
 * Promises 1 and 22 to 25 at their edges: an IMAGE of a new object and of a full one, kept anew, not
 * kept; each refusal counted by its kind; a digest of what is empty and of what is full.
 */
public final class EdgesOfImagesTest {
    private static final Check CHECK = new Check();
    private static final int[] AT_FIRST = {200, 2, 1, 2, 3, 0, 0, 200};

    public static void main(String[] args) {
        newObjectsAreAlike();
        noneIsKeptAtFirst();
        imageOfANewObject();
        imageOfAFullOne();
        eachKeepsItsOwn();
        keptAnew();
        refusedImagesKeepNothing();
        whatIsKeptIsAllOfIt();
        imagesKeepNoImagesAndNoStatus();
        goesOnAsOften();
        statusCountsByKind();
        statusOfPushes();
        statusOfAnotherWhat();
        digestOfNothing();
        digestOfAllThatIsFull();
        digestOfEachCharacterAndPush();
        digestWrapsAround();
        CHECK.end();
    }

    private static void newObjectsAreAlike() {
        SwingYard x = new SwingYard();
        SwingYard y = new SwingYard();
        Check.law(y, "9");
        y.push(0, 30000);
        y.begin(777);
        y.tick(50);
        y.image(0);
        CHECK.told(x, "beside another one", 0, 0, 0, 0, 0, 0, 0, 0, 0, 0, 0, 0);
        CHECK.due("from(0) beside another one", x.from(0), -3);
        CHECK.due("digest() of new ones", x.digest(), new SwingYard().digest());
        for (int i = 0; i < 8; i++) {
            CHECK.due("number " + i + " at first", x.put(i, AT_FIRST[i]), AT_FIRST[i]);
        }
    }

    private static void noneIsKeptAtFirst() {
        for (int i = 0; i < 2; i++) {
            int image = i;
            SwingYard x = Check.amid(20);
            CHECK.refused(x, "from(" + i + ")", y -> y.from(image), -3, 1);
            CHECK.due("image of the other", x.image(1 - i), 1);
            CHECK.refused(x, "from(" + i + "), the other is kept", y -> y.from(image), -3, 1);
            CHECK.due("from of the other", x.from(1 - i), 1);
            CHECK.refused(x, "from(" + i + "), still none", y -> y.from(image), -3, 1);
            CHECK.due("three are counted", x.status(1), 3);
        }
    }

    private static void imageOfANewObject() {
        for (int i = 0; i < 2; i++) {
            SwingYard x = new SwingYard();
            long first = x.digest();
            CHECK.due("image of a new one", x.image(i), 1);
            CHECK.due("from of it at once", x.from(i), 1);
            CHECK.due("digest() as at first", x.digest(), first);
            Check.law(x, "9*(v>0)");
            x.push(3, 3);
            x.put(0, 400);
            x.begin(-1000000);
            x.tick(500);
            CHECK.due("from of a new one", x.from(i), 1);
            CHECK.due("digest() of a new one", x.digest(), first);
            CHECK.due("fault() of a new one", x.fault(), 1);
            CHECK.due("PUSHES of a new one", x.status(3), 0);
            CHECK.due("erase() of a new one", x.erase(), 0);
            x.tick(5);
            CHECK.told(x, "rest", 0, 0, 0, 0, 0, 5, 0, 0, 0, 0, 0, 0);
        }
    }

    private static SwingYard full() {
        SwingYard x = Check.swing(50, 9, 1, 4, 1, 90, 50, 50);
        Check.law(x, " ".repeat(53) + "9*(v>0)");
        for (int i = 0; i < 8; i++) {
            x.push(430 + i, 30000 - 7000 * i);
        }
        x.begin(-1000000);
        x.tick(425);
        return x;
    }

    private static void imageOfAFullOne() {
        SwingYard x = full();
        SwingYard twin = full();
        CHECK.due("more than 40 turns", x.told(6) > 40 ? 1 : 0, 1);
        CHECK.due("image(1)", x.image(1), 1);
        x.erase();
        x.rest();
        x.begin(0);
        x.tick(3);
        CHECK.due("from(1)", x.from(1), 1);
        CHECK.due("digest()", x.digest(), twin.digest());
        CHECK.refused(x, "write, full again", y -> y.write('1'), -4, 2);
        CHECK.refused(x, "push, full again", y -> y.push(1, 1), -4, 2);
        CHECK.due("tick(40)", x.tick(40), twin.tick(40));
        CHECK.due("digest() further on", x.digest(), twin.digest());
    }

    private static void eachKeepsItsOwn() {
        SwingYard x = new SwingYard();
        x.begin(11);
        x.image(0);
        x.begin(22);
        x.image(1);
        x.begin(33);
        CHECK.due("from(0)", x.from(0), 1);
        CHECK.due("PLACE of 0", x.told(0), 11);
        CHECK.due("from(1)", x.from(1), 1);
        CHECK.due("PLACE of 1", x.told(0), 22);
        CHECK.due("from(0) again", x.from(0), 1);
        CHECK.due("PLACE of 0 again", x.told(0), 11);
    }

    private static void keptAnew() {
        SwingYard x = new SwingYard();
        x.begin(11);
        x.image(0);
        x.image(1);
        x.begin(22);
        CHECK.due("image(0) anew", x.image(0), 1);
        x.begin(33);
        x.from(0);
        CHECK.due("PLACE of 0, kept anew", x.told(0), 22);
        x.from(1);
        CHECK.due("PLACE of 1, as it was", x.told(0), 11);
    }

    private static void refusedImagesKeepNothing() {
        SwingYard x = new SwingYard();
        x.begin(11);
        x.image(0);
        x.image(1);
        x.begin(22);
        for (int wrong : new int[] {-1, 2, 3, 256, Integer.MIN_VALUE, Integer.MAX_VALUE}) {
            CHECK.bad(x, "image(" + wrong + ")", y -> y.image(wrong), -2);
            CHECK.bad(x, "from(" + wrong + ")", y -> y.from(wrong), -2);
        }
        x.from(0);
        CHECK.due("PLACE of 0", x.told(0), 11);
        x.from(1);
        CHECK.due("PLACE of 1", x.told(0), 11);
    }

    /** Each part alone is changed behind an image, and is back again. */
    private static void whatIsKeptIsAllOfIt() {
        int[][] numbers = {{0, 333}, {1, 7}, {2, 44}, {3, 1}, {4, 8}, {5, -15}, {6, 8}, {7, 333}};
        for (int[] n : numbers) {
            backAgain("put(" + n[0] + ")", x -> x.put(n[0], n[1]));
        }
        backAgain("a character more", x -> x.write('1'));
        backAgain("no LAW", SwingYard::erase);
        backAgain("a LAW as long", x -> Check.law(x, "0*(a*v<0)+(u>200000&t>3)"));
        backAgain("another LAW", x -> Check.law(x, "k+"));
        backAgain("a PUSH more", x -> x.push(33, 7));
        backAgain("no PUSHES", SwingYard::rest);
        backAgain("other ticks of PUSHES", x -> pushAnew(x, 23, 9000, 41, -12000));
        backAgain("other forces of PUSHES", x -> pushAnew(x, 22, 900, 40, -1200));
        backAgain("begun anew", x -> x.begin(250000));
        backAgain("begun anew and turned", x -> {
            x.begin(-777777);
            x.tick(60);
        });
        backAgain("a tick more", x -> x.tick(1));
        backAgain("500 ticks more", x -> x.tick(500));
    }

    private static void pushAnew(SwingYard x, int first, int force, int second, int otherForce) {
        x.rest();
        x.push(first, force);
        x.push(second, otherForce);
    }

    private static void backAgain(String change, Consumer<SwingYard> changing) {
        SwingYard x = Check.amid(35);
        SwingYard twin = Check.amid(35);
        CHECK.due("there is a turn to keep", x.told(6) > 0 ? 1 : 0, 1);
        x.image(0);
        changing.accept(x);
        CHECK.due(change + " changes something", x.digest() != twin.digest() ? 1 : 0, 1);
        x.from(0);
        for (int i = 0; i < 30; i++) {
            CHECK.due("digest() behind " + change, x.digest(), twin.digest());
            CHECK.due("fault() behind " + change, x.fault(), twin.fault());
            CHECK.due("tick(3) behind " + change, x.tick(3), twin.tick(3));
        }
    }

    private static void imagesKeepNoImagesAndNoStatus() {
        SwingYard x = new SwingYard();
        x.begin(11);
        x.tick(0);
        x.from(1);
        x.image(0);
        x.begin(22);
        x.image(1);
        x.tick(0);
        x.tick(0);
        x.from(0);
        CHECK.due("status(0) goes on", x.status(0), 3);
        CHECK.due("status(1) goes on", x.status(1), 1);
        CHECK.due("from(1): it is still kept", x.from(1), 1);
        CHECK.due("PLACE of 1", x.told(0), 22);
    }

    private static void goesOnAsOften() {
        SwingYard x = Check.amid(30);
        x.image(1);
        long then = x.digest();
        x.tick(50);
        long later = x.digest();
        for (int i = 0; i < 5; i++) {
            CHECK.due("from(1), once more", x.from(1), 1);
            CHECK.due("digest()", x.digest(), then);
            x.tick(50);
            CHECK.due("digest() 50 ticks on", x.digest(), later);
        }
    }

    private static void statusCountsByKind() {
        SwingYard x = new SwingYard();
        int bads = 0;
        for (int i = 0; i < 12; i++) {
            x.tick(501);
            bads++;
            CHECK.due("status(0)", x.status(0), bads);
            x.from(i % 2);
            CHECK.due("status(1)", x.status(1), i + 1);
            if (i < 8) {
                x.push(i, i);
            } else {
                x.push(i, i);
                CHECK.due("status(2)", x.status(2), i - 7);
            }
            x.status(4);
            bads++;
            CHECK.due("status(0) behind status(4)", x.status(0), bads);
        }
        CHECK.due("status(0) at the end", x.status(0), 24);
        CHECK.due("status(1) at the end", x.status(1), 12);
        CHECK.due("status(2) at the end", x.status(2), 4);
    }

    private static void statusOfPushes() {
        SwingYard x = new SwingYard();
        for (int i = 0; i < 8; i++) {
            CHECK.due("status(3)", x.status(3), i);
            x.push(0, 0);
            x.push(-1, 0);
        }
        CHECK.due("status(3) of eight", x.status(3), 8);
        x.push(0, 0);
        CHECK.due("status(3), full", x.status(3), 8);
        x.rest();
        CHECK.due("status(3) behind rest", x.status(3), 0);
        CHECK.due("the bad ones", x.status(0), 8);
        CHECK.due("the one too many", x.status(2), 1);
    }

    private static void statusOfAnotherWhat() {
        SwingYard x = new SwingYard();
        int[] wrong = {-1, 4, -2, 5, Integer.MIN_VALUE, Integer.MAX_VALUE};
        for (int i = 0; i < wrong.length; i++) {
            CHECK.due("status(" + wrong[i] + ")", x.status(wrong[i]), -1);
            CHECK.due("status(0) counts it", x.status(0), i + 1);
        }
    }

    private static long digestOf(SwingYard x, long... first) {
        long h = 487;
        for (long v : first) {
            h = 31 * h + v;
        }
        for (int i = 0; i < 12; i++) {
            h = 31 * h + x.told(i);
        }
        for (int i = 0; i < 40; i++) {
            h = 31 * h + x.turn(i);
        }
        return h;
    }

    private static void digestOfNothing() {
        SwingYard x = new SwingYard();
        CHECK.due("digest() of nothing", x.digest(), digestOf(x, 200, 2, 1, 2, 3, 0, 0, 200, 0));
        CHECK.due("a turn that is not is -1", x.turn(39), -1);
    }

    private static void digestOfAllThatIsFull() {
        SwingYard x = full();
        long[] first = new long[8 + 1 + 60 + 16];
        int[] numbers = {50, 9, 1, 4, 1, 90, 50, 50};
        for (int i = 0; i < 8; i++) {
            first[i] = numbers[i];
        }
        first[8] = 60;
        String law = " ".repeat(53) + "9*(v>0)";
        for (int i = 0; i < 60; i++) {
            first[9 + i] = law.charAt(i);
        }
        for (int i = 0; i < 8; i++) {
            first[69 + 2 * i] = 430 + i;
            first[70 + 2 * i] = 30000 - 7000 * i;
        }
        CHECK.due("digest() of a full one", x.digest(), digestOf(x, first));
        x.write('1');
        x.push(0, 0);
        CHECK.due("digest() is without what is refused", x.digest(), digestOf(x, first));
    }

    private static void digestOfEachCharacterAndPush() {
        SwingYard x = new SwingYard();
        x.write(0);
        CHECK.due("digest() with a character 0", x.digest(), digestOf(x, 200, 2, 1, 2, 3, 0, 0, 200, 1, 0));
        x.write(127);
        CHECK.due("digest() with a 127", x.digest(), digestOf(x, 200, 2, 1, 2, 3, 0, 0, 200, 2, 0, 127));
        x.push(0, -30000);
        CHECK.due("digest() with a push", x.digest(), digestOf(x, 200, 2, 1, 2, 3, 0, 0, 200, 2, 0, 127, 0, -30000));
        x.push(9999, 30000);
        CHECK.due("digest() with two", x.digest(),
                digestOf(x, 200, 2, 1, 2, 3, 0, 0, 200, 2, 0, 127, 0, -30000, 9999, 30000));
        x.erase();
        x.rest();
        CHECK.due("digest() of nothing again", x.digest(), new SwingYard().digest());
    }

    /** 61 steps of 31 go far beyond a long: only what is left of it stays, as Java's longs do. */
    private static void digestWrapsAround() {
        BigInteger h = BigInteger.valueOf(487);
        int[] values = new int[61];
        System.arraycopy(AT_FIRST, 0, values, 0, 8);
        Arrays.fill(values, 21, 61, -1);
        for (int v : values) {
            h = h.multiply(BigInteger.valueOf(31)).add(BigInteger.valueOf(v));
        }
        CHECK.due("it is beyond a long", h.bitLength() > 64 ? 1 : 0, 1);
        CHECK.due("digest() wraps", new SwingYard().digest(), h.longValue());
    }
}
