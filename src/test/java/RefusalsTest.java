import java.util.ArrayList;
import java.util.Arrays;
import java.util.List;
import java.util.function.Supplier;

/**
 * Every number that a call takes, promises 2 to 24: the last value that is taken and the first that is
 * refused at each bound. A refused call is held against a twin on which it was not made: what all other
 * calls answer then is the same, images and the ticks to come too, but for one count of STATUS.
 */
public final class RefusalsTest {
    private static final Check CHECK = new Check();
    private static final int BAD = 0;
    private static final int NO = 1;
    private static final int FULL = 2;
    private static final int[] LEAST = {50, 1, 0, 0, 1, -90, 0, 50};
    private static final int[] MOST = {400, 9, 50, 4, 9, 90, 50, 400};

    public static void main(String[] args) {
        filledIsFull();
        boundsOfSwings();
        boundsOfRuns();
        boundsOfWhatIsBest();
        boundsOfImages();
        severalBadNumbersAreOneRefusal();
        badComesBeforeFull();
        badComesBeforeNo();
        fullIsRefused();
        noneKeptIsRefused();
        nothingElseIsRefused();
        CHECK.end();
    }

    private static void boundsOfSwings() {
        bound("put", -100, 0, 0, 7, 0, 50);
        for (int i = 0; i < 8; i++) {
            bound("put", -100, 1, LEAST[i], MOST[i], i, 0);
        }
        bound("write", -2, 0, 0, 127, 0);
        bound("push", -2, 0, 0, 9999, 0, 5);
        bound("push", -2, 1, -30000, 30000, 5, 0);
        bound("begin", -2, 0, -1000000, 1000000, 0);
        bound("tick", -2, 0, 1, 500, 0);
        bound("told", -10000000, 0, 0, 11, 0);
        bound("turn", -2, 0, 0, 39, 0);
    }

    private static void boundsOfRuns() {
        bound("peak", -2, 0, 1, 500, 0);
        bound("gain", -10000000, 0, 1, 500, 0);
        bound("worth", -10000000, 0, 0, 499, 0, 5, 9);
        bound("worth", -10000000, 1, -30000, 30000, 5, 0, 9);
        bound("worth", -10000000, 2, 1, 500, 5, 5, 0);
    }

    private static void boundsOfWhatIsBest() {
        bound("best", -2, 0, 1, 12, 0, 3);
        bound("best", -2, 1, -1, 4, 2, 0);
        bound("when", -2, 0, -30000, 30000, 0, 9, 4, 1);
        bound("when", -2, 1, 1, 500, 50, 0, 4, 1);
        bound("when", -2, 2, 1, 40, 50, 9, 0, 0);
        bound("when", -2, 3, 0, 1, 50, 9, 4, 0);
        bound("far", -1000000000, 0, 0, 120, 0);
        bound("farthest", -2, 0, 0, 120, 0);
        bound("swaps", -2, 0, 1, 500, 0, 1);
        bound("swaps", -2, 1, 0, 1, 9, 0);
        bound("simplest", -2, 0, 1, 300, 0);
    }

    private static void boundsOfImages() {
        bound("image", -2, 0, 0, 1, 0);
        bound("from", -2, 0, 0, 1, 0);
        bound("status", -1, 0, 0, 3, 0);
    }

    /** The number at one place of a call's, from its least to its most; the others are as told. */
    private static void bound(String call, long answer, int place, int least, int most, int... numbers) {
        taken(call, with(numbers, place, least));
        taken(call, with(numbers, place, most));
        int[] wrong = {least - 1, most + 1, Integer.MIN_VALUE, Integer.MAX_VALUE};
        for (int number : wrong) {
            refused(RefusalsTest::fresh, call, with(numbers, place, number), answer, BAD);
            refused(RefusalsTest::midway, call, with(numbers, place, number), answer, BAD);
            refused(RefusalsTest::filled, call, with(numbers, place, number), answer, BAD);
        }
    }

    private static int[] with(int[] numbers, int place, int number) {
        int[] changed = numbers.clone();
        changed[place] = number;
        return changed;
    }

    private static void taken(String call, int... numbers) {
        SwingYard x = midway();
        x.image(1);
        int[] counts = counts(x);
        Calls.ask(x, call, numbers);
        sameCounts(call + Arrays.toString(numbers) + ", taken", x, counts);
    }

    private static void refused(Supplier<SwingYard> made, String call, int[] numbers, long answer, int counted) {
        String label = call + Arrays.toString(numbers);
        SwingYard x = made.get();
        SwingYard twin = made.get();
        int[] counts = counts(x);
        counts[counted]++;
        CHECK.due(label, Calls.ask(x, call, numbers), answer);
        sameCounts(label, x, counts);
        List<Long> all = allThereIs(x);
        List<Long> due = allThereIs(twin);
        for (int i = 0; i < due.size(); i++) {
            CHECK.due("what is asked " + i + "th behind " + label, all.get(i), due.get(i));
        }
        int[] atTheEnd = counts(twin);
        atTheEnd[counted]++;
        sameCounts("all behind " + label, x, atTheEnd);
    }

    private static int[] counts(SwingYard x) {
        return new int[] {x.status(BAD), x.status(NO), x.status(FULL)};
    }

    private static void sameCounts(String label, SwingYard x, int[] counts) {
        for (int i = 0; i < 3; i++) {
            CHECK.due("status(" + i + ") behind " + label, x.status(i), counts[i]);
        }
    }

    /** All that can be told apart: what there is, what is asked of runs, what comes, and both images. */
    private static List<Long> allThereIs(SwingYard x) {
        List<Long> all = new ArrayList<>();
        all.add(x.digest());
        all.add((long) x.fault());
        all.add((long) x.status(3));
        all.add((long) x.peak(30));
        all.add((long) x.gain(60));
        all.add((long) x.worth(2, 700, 30));
        all.add((long) x.begins());
        all.add((long) x.best(2, -1));
        all.add((long) x.best(2, 3));
        all.add((long) x.when(700, 20, 5, 0));
        all.add((long) x.far(4));
        all.add((long) x.farthest(20));
        all.add((long) x.swaps(30, 1));
        all.add((long) x.simplest(30));
        goOn(x, all);
        for (int i = 0; i < 2; i++) {
            all.add((long) x.from(i));
            all.add((long) x.fault());
            all.add(x.digest());
            goOn(x, all);
        }
        return all;
    }

    private static void goOn(SwingYard x, List<Long> all) {
        for (int i = 0; i < 3; i++) {
            all.add((long) x.tick(9));
            all.add(x.digest());
        }
    }

    private static SwingYard fresh() {
        return new SwingYard();
    }

    /** Swinging, with one image that is of something else, and some refusals behind it. */
    private static SwingYard midway() {
        SwingYard x = Check.swing(90, 4, 3, 1, 2, -6, 9, 300);
        Check.law(x, "h+");
        x.push(4, -900);
        x.begin(-123456);
        x.tick(31);
        x.image(0);
        x.tick(0);
        x.from(1);
        x.rest();
        x.push(22, 9000);
        x.push(40, -12000);
        Check.law(x, "9*(a*v<0)+(u>200000&t>3)");
        x.put(0, 120);
        x.begin(250000);
        x.tick(25);
        return x;
    }

    /** All that can be full is: 60 characters, 8 PUSHES, 40 heights, both images. */
    private static SwingYard filled() {
        SwingYard x = midway();
        x.image(1);
        Check.law(x, "9*(v>0)" + " ".repeat(50) + "&!0");
        x.rest();
        for (int i = 0; i < 8; i++) {
            x.push(410 + 2 * i, 1500 - 400 * i);
        }
        x.put(0, 50);
        x.put(1, 9);
        x.begin(654321);
        x.tick(405);
        return x;
    }

    private static void filledIsFull() {
        SwingYard x = filled();
        CHECK.due("PUSHES of the filled one", x.status(3), 8);
        CHECK.due("it turned more than 40 times", x.told(6) > 40 ? 1 : 0, 1);
        CHECK.due("from(0) of the filled one", x.from(0), 1);
        CHECK.due("from(1) of the filled one", x.from(1), 1);
        CHECK.due("characters of the filled one", filled().erase(), 60);
    }

    private static void severalBadNumbersAreOneRefusal() {
        int[] wrong = {Integer.MIN_VALUE, Integer.MAX_VALUE, -2, -2};
        refused(RefusalsTest::filled, "put", new int[] {-1, 1000}, -100, BAD);
        refused(RefusalsTest::filled, "push", new int[] {-1, 30001}, -2, BAD);
        refused(RefusalsTest::filled, "worth", new int[] {-1, 30001, 0}, -10000000, BAD);
        refused(RefusalsTest::filled, "best", new int[] {0, 5}, -2, BAD);
        refused(RefusalsTest::filled, "when", wrong, -2, BAD);
        refused(RefusalsTest::filled, "swaps", new int[] {0, 2}, -2, BAD);
    }

    private static void badComesBeforeFull() {
        refused(RefusalsTest::filled, "write", new int[] {128}, -2, BAD);
        refused(RefusalsTest::filled, "write", new int[] {-1}, -2, BAD);
        refused(RefusalsTest::filled, "push", new int[] {10000, 0}, -2, BAD);
        refused(RefusalsTest::filled, "push", new int[] {0, -30001}, -2, BAD);
    }

    private static void badComesBeforeNo() {
        refused(RefusalsTest::fresh, "from", new int[] {-1}, -2, BAD);
        refused(RefusalsTest::fresh, "from", new int[] {2}, -2, BAD);
    }

    private static void fullIsRefused() {
        for (int character : new int[] {0, 32, '1', 127}) {
            refused(RefusalsTest::filled, "write", new int[] {character}, -4, FULL);
        }
        refused(RefusalsTest::filled, "push", new int[] {0, -30000}, -4, FULL);
        refused(RefusalsTest::filled, "push", new int[] {9999, 30000}, -4, FULL);
    }

    private static void noneKeptIsRefused() {
        refused(RefusalsTest::fresh, "from", new int[] {0}, -3, NO);
        refused(RefusalsTest::fresh, "from", new int[] {1}, -3, NO);
        refused(RefusalsTest::midway, "from", new int[] {1}, -3, NO);
    }

    /** Answers of NONE or 0 are no refusals, nor is what finds nothing to take away. */
    private static void nothingElseIsRefused() {
        SwingYard x = new SwingYard();
        CHECK.due("erase() of none", x.erase(), 0);
        CHECK.due("rest() of none", x.rest(), 0);
        CHECK.due("fault() of none", x.fault(), 1);
        CHECK.due("turn(0) of none", x.turn(0), -1);
        CHECK.due("turn(39) of none", x.turn(39), -1);
        CHECK.due("begins() of none", x.begins(), -1);
        CHECK.due("simplest(300) of none", x.simplest(300), -1);
        x.write('1');
        CHECK.due("fault() of 1", x.fault(), -1);
        x.write('+');
        CHECK.due("fault() of 1+", x.fault(), 21);
        x.begin(0);
        x.tick(1);
        x.digest();
        sameCounts("calls that are not refused", x, new int[] {0, 0, 0});
    }
}
