import java.lang.reflect.Field;

/**
 * Promises 2 and 8 to 11 at the edges that 'Terms' and section 1 name: where divisions cut, where a
 * POSTURE ends, just at the bar and 1 above it, what is a turn and what is not, the 40 heights.
 */
public final class EdgesOfTicksTest {
    private static final Check CHECK = new Check();

    public static void main(String[] args) throws ReflectiveOperationException {
        stretchingCutsTowardZero(1);
        stretchingCutsTowardZero(-1);
        strengthCutsTowardZero();
        pullCutsTowardZero(1);
        pullCutsTowardZero(-1);
        giveCutsTowardZero(1);
        giveCutsTowardZero(-1);
        pullOfTheOtherCutsTowardZero(1);
        pullOfTheOtherCutsTowardZero(-1);
        lossCutsTowardZero(1);
        lossCutsTowardZero(-1);
        numbersCountFromTheNextTick();
        postureEndsAtZeroAndNine();
        postureIsBroughtThereAsALong();
        quickLetsItGoSoFar();
        leaningNeedsAStep();
        theShortestLength();
        speedTimesLengthsBeyondAnInt();
        strengthAtItsMost();
        atTheBarAndOneAbove(1);
        atTheBarAndOneAbove(-1);
        otherIsBroughtToTheBar(1);
        otherIsBroughtToTheBar(-1);
        aTurnNeedsAnotherSign();
        aTurnIsSeenSinceADrop();
        aTurnIsSeenSinceItBegan();
        sinceTheMiddleWasPassed();
        beginsAtTheBar();
        fewestAndMostTicks();
        fortyHeightsAreKept();
        CHECK.end();
    }

    private static void tick(SwingYard x, String where, int... told) {
        x.tick(1);
        CHECK.told(x, where, told);
    }

    private static void stretchingCutsTowardZero(int side) {
        SwingYard x = Check.swing(200, 2, 0, 2, 3);
        Check.law(x, "3*(k=1)");
        x.push(0, side);
        tick(x, "a speed of 1", side, side, 0);
        // 1 * 200 * 200 / (194 * 194) is more than 1
        tick(x, "stretched", 2 * side, side, 3);
        // 1 * 194 * 194 / (200 * 200) is less than 1
        tick(x, "bent", 2 * side, 0, 0);
    }

    private static void strengthCutsTowardZero() {
        int[] speeds = {0, 9999, -9999, 10000, -10000, 19999, -19999, 20000, -20000};
        int[] used = {10, 10, 10, 11, 11, 11, 11, 12, 12};
        for (int i = 0; i < speeds.length; i++) {
            SwingYard x = Check.swing(400, 1, 0, 0, 9);
            Check.law(x, "k");
            x.push(0, speeds[i]);
            x.push(1, 25000);
            x.tick(1);
            CHECK.due("the speed", x.told(1), speeds[i]);
            CHECK.due("STRENGTH ahead", x.told(7), 0);
            x.tick(1);
            CHECK.due("STRENGTH of one step up with " + speeds[i], x.told(7), used[i]);
        }
    }

    private static void pullCutsTowardZero(int side) {
        int[][] swings = {{400, 1, 399, 0}, {400, 1, 400, 1}, {50, 9, 5, 0}, {50, 9, 6, 1}, {400, 9, 44, 0}, {400, 9, 45, 1}};
        for (int[] s : swings) {
            SwingYard x = Check.swing(s[0], s[1], 0);
            x.begin(side * s[2]);
            tick(x, "PULL " + s[1] + ", ROPE " + s[0] + " from " + side * s[2], side * (s[2] - s[3]), -side * s[3]);
        }
    }

    private static void giveCutsTowardZero(int side) {
        int[][] gives = {{0, 900, 0}, {1, 999, 0}, {1, 1000, 1}, {50, 19, 0}, {50, 20, 1}};
        for (int[] g : gives) {
            SwingYard x = Check.swing(400, 1, 0, 0, 9, 0, g[0], 400);
            x.begin(side * g[1]);
            int pulled = g[1] / 400;
            tick(x, "GIVE " + g[0] + " from " + side * g[1], side * (g[1] - g[2] - pulled), -side * (g[2] + pulled),
                    0, 1, g[1], 1, 0, 0, 0, 0, side * g[2], side * g[2]);
        }
    }

    private static void pullOfTheOtherCutsTowardZero(int side) {
        SwingYard x = Check.swing(400, 1, 0, 0, 9, 0, 50, 50);
        x.begin(20 * side);
        x.tick(1);
        x.put(6, 0);
        x.put(1, 9);
        for (int i = 2; i <= 6; i++) {
            x.tick(1);
            // 9 * 5 / 50 is less than 1
            CHECK.due("the other one's PLACE", x.told(10), i * side);
            CHECK.due("the other one's SPEED", x.told(11), side);
        }
        x.tick(1);
        // 9 * 6 / 50 is more than 1
        CHECK.due("the other one's PLACE, pulled", x.told(10), 6 * side);
        CHECK.due("the other one's SPEED, pulled", x.told(11), 0);
        x.put(7, 400);
        x.put(6, 0);
        x.tick(1);
        CHECK.due("BESIDE 400 does not pull it there", x.told(11), 0);
    }

    private static void lossCutsTowardZero(int side) {
        int[][] losses = {{0, 30000, 30000}, {1, 999, 999}, {1, 1000, 999}, {50, 19, 19}, {50, 20, 19}, {50, 39, 38}};
        for (int[] l : losses) {
            SwingYard x = Check.swing(400, 1, l[0]);
            x.push(0, side * l[1]);
            tick(x, "LOSS " + l[0] + " of " + side * l[1], side * l[2], side * l[2]);
        }
        // the other one is given 19, 20
        SwingYard x = Check.swing(400, 1, 50, 0, 9, 0, 50, 400);
        x.begin(380 * side);
        tick(x, "LOSS 50 of w 19", 361 * side, -19 * side, 0, 1, 380, 1, 0, 0, 0, 0, 19 * side, 19 * side);
        x.begin(400 * side);
        tick(x, "LOSS 50 of w 20", 380 * side, -20 * side, 0, 1, 400, 1, 0, 0, 0, 0, 19 * side, 19 * side);
        // 37 * 27 is 1 below 1000, and 40 * 25 just 1000
        x.put(2, 27);
        x.begin(740 * side);
        x.tick(1);
        CHECK.due("LOSS 27 of w 37", x.told(11), 37 * side);
        x.put(2, 25);
        x.begin(800 * side);
        x.tick(1);
        CHECK.due("LOSS 25 of w 40", x.told(11), 39 * side);
    }

    /** LENGTH before is of the new ROPE too: put alone leaves the speed as it is. */
    private static void numbersCountFromTheNextTick() {
        SwingYard x = Check.swing(400, 1, 0);
        x.push(0, 100);
        x.tick(1);
        x.put(0, 50);
        CHECK.told(x, "put is no tick", 100, 100, 0, 1, 0, 1);
        tick(x, "ROPE 50: 100 by 50", 198, 98, 0, 2, 0, 2);
    }

    private static void postureEndsAtZeroAndNine() {
        String[] laws = {"0", "9", "10", "8", "-1", "1", "999999", "-999999"};
        int[] postures = {0, 9, 9, 8, 0, 1, 9, 0};
        for (int from = 0; from <= 9; from += 3) {
            for (int i = 0; i < laws.length; i++) {
                SwingYard x = Check.swing(200, 2, 0, 0, 9);
                Check.law(x, "h+3");
                x.tick(from == 0 ? 1 : from / 3);
                Check.law(x, laws[i]);
                x.tick(1);
                CHECK.due("POSTURE by '" + laws[i] + "'", x.told(2), postures[i]);
            }
        }
    }

    private static void postureIsBroughtThereAsALong() {
        String[] laws = {
            "65536*32768", "65536*65536", "65536*65536+5", "5-65536*65536", "65536*65536*65536*32768",
            "65536*65536*65536*32768-1"};
        int[] postures = {9, 9, 9, 0, 0, 9};
        for (int i = 0; i < laws.length; i++) {
            SwingYard x = Check.swing(200, 2, 0, 0, 9);
            Check.law(x, "4");
            x.tick(1);
            Check.law(x, laws[i]);
            x.tick(1);
            CHECK.due("POSTURE by '" + laws[i] + "'", x.told(2), postures[i]);
        }
    }

    private static void quickLetsItGoSoFar() {
        for (int quick = 1; quick <= 9; quick++) {
            for (int wish = 0; wish <= 9; wish++) {
                SwingYard x = Check.swing(200, 2, 0, 0, quick);
                Check.law(x, String.valueOf(wish));
                x.tick(1);
                int up = Math.min(quick, wish);
                CHECK.due("up to " + wish + " with QUICK " + quick, x.told(2), up);
                CHECK.due("STRENGTH up to " + wish, x.told(7), 10 * up);
                Check.law(x, "9");
                x.tick(9);
                int used = x.told(7);
                Check.law(x, String.valueOf(wish));
                x.tick(1);
                int down = Math.min(quick, 9 - wish);
                CHECK.due("down to " + wish + " with QUICK " + quick, x.told(2), 9 - down);
                CHECK.due("STRENGTH down to " + wish, x.told(7) - used, 10 * down);
            }
        }
    }

    private static void leaningNeedsAStep() {
        for (int lean : new int[] {-90, -1, 0, 1, 90}) {
            SwingYard x = Check.swing(400, 1, 0, 0, 1, lean);
            Check.law(x, "0");
            tick(x, "LEAN, no step", 0, 0, 0);
            Check.law(x, "9");
            tick(x, "LEAN, a step up", 100 * lean, 100 * lean, 1);
            int speed = 100 * lean - 100 * lean / 400;
            tick(x, "LEAN, a second one", 100 * lean + speed + 100 * lean, speed + 100 * lean, 2);
            x.begin(0);
            Check.law(x, "1");
            x.tick(1);
            x.put(5, -lean);
            Check.law(x, "0");
            // LEAN is of the other sign now: a step down adds as much again
            speed = 200 * lean - 100 * lean / 400;
            tick(x, "LEAN, a step down", 100 * lean + speed, speed, 0);
        }
    }

    /** ROPE 50 less STEP 4 times 9 is 14. */
    private static void theShortestLength() {
        SwingYard x = Check.swing(50, 9, 0, 4, 9);
        Check.law(x, "9");
        x.begin(14);
        tick(x, "LENGTH 14: 126 by 14", 5, -9, 9);
        x.begin(0);
        Check.law(x, "9*(k=1)");
        x.push(0, 1000);
        tick(x, "LENGTH 50", 1000, 1000, 0);
        // 1000 * 2500 / 196 = 12755, less 9000 / 14 = 642
        tick(x, "from 50 to 14", 13113, 12113, 9, 2, 0, 2, 0, 90);
        // 12113 * 196 / 2500 = 949, less 118017 / 50 = 2360
        tick(x, "from 14 to 50", 11702, -1411, 0, 3, 11702, 3, 1, 189);
    }

    private static void speedTimesLengthsBeyondAnInt() {
        SwingYard x = Check.swing(400, 1, 0, 1, 9);
        Check.law(x, "9*k");
        x.push(0, 30000);
        tick(x, "LENGTH 400", 30000, 30000, 0);
        // 30000 * 160000 / 152881 = 31396, less 30000 / 391 = 76
        tick(x, "LENGTH 391", 61320, 31320, 9);
    }

    /**
     * 512 calls can't use up 1000000000: a tick uses 9 times 210 at most. So what was used is put into
     * the object by hand, a little below the bound.
     */
    private static void strengthAtItsMost() throws ReflectiveOperationException {
        int[][] used = {{999999980, 999999990}, {999999989, 999999999}, {999999990, 1000000000},
            {999999991, 1000000000}, {999999999, 1000000000}, {1000000000, 1000000000}};
        for (int[] u : used) {
            SwingYard x = Check.swing(200, 2, 0, 0, 1);
            Check.law(x, "9");
            strengthField(x, u[0]);
            CHECK.due("STRENGTH ahead", x.told(7), u[0]);
            x.tick(1);
            CHECK.due("STRENGTH, 10 more than " + u[0], x.told(7), u[1]);
        }
    }

    private static void strengthField(SwingYard x, int used) throws ReflectiveOperationException {
        Object child = inside(inside(x, "now"), "child");
        Field field = child.getClass().getDeclaredField("strength");
        field.setAccessible(true);
        field.setInt(child, used);
    }

    private static Object inside(Object of, String name) throws ReflectiveOperationException {
        Field field = of.getClass().getDeclaredField(name);
        field.setAccessible(true);
        return field.get(of);
    }

    private static void atTheBarAndOneAbove(int side) {
        int bar = 1000000 * side;
        int[] pushes = {2499, 2501, 2499, 2501, 2502, 2501};
        SwingYard x = Check.swing(400, 1, 0);
        for (int i = 0; i < pushes.length; i++) {
            x.push(i, side * pushes[i]);
        }
        x.begin(bar);
        tick(x, "1 below the bar", bar - side, -side, 0, 1, 1000000, 1, 0, 0, 0, 0);
        // it comes to the bar with a speed of 1 that stays: a turn, but no DROP
        tick(x, "to the bar", bar, side, 0, 2, 1000000, 2, 1, 0, 0, 0);
        tick(x, "at the bar", bar, 0, 0, 3, 1000000, 3, 1, 0, 0, 0);
        tick(x, "1 above the bar", bar, 0, 0, 4, 1000000, 4, 2, 0, 1, 1);
        tick(x, "2 above the bar", bar, 0, 0, 5, 1000000, 5, 3, 0, 2, 2);
        tick(x, "1 again: the greatest DROP stays", bar, 0, 0, 6, 1000000, 6, 4, 0, 3, 2);
        tick(x, "down again", bar - 2500 * side, -2500 * side, 0, 7, 1000000, 7, 4, 0, 3, 2);
    }

    /** One tick ahead of it, what comes is worked out from what is told. */
    private static void otherIsBroughtToTheBar(int side) {
        SwingYard x = Check.swing(200, 2, 1, 2, 3, 60 * side, 20, 200);
        Check.law(x, side > 0 ? "9*(v>0)" : "9*(v<0)");
        x.begin(300000 * side);
        x.tick(198);
        int drops = x.told(8);
        boolean beyond = false;
        for (int i = 0; i < 6 && !beyond; i++) {
            int b = x.told(10);
            int w = x.told(11) - 2 * b / 200 - 20 * (b - x.told(0)) / 1000;
            w -= w / 1000;
            beyond = Math.abs(b + w) > 1000000;
            x.tick(1);
            CHECK.due("the other one's PLACE", x.told(10), beyond ? Integer.signum(b + w) * 1000000 : b + w);
            CHECK.due("the other one's SPEED", x.told(11), beyond ? 0 : w);
        }
        CHECK.due("the other one comes beyond the bar", beyond ? 1 : 0, 1);
        CHECK.due("the other one's PLACE there", x.told(10), -1000000 * side);
        CHECK.due("it is no DROP", x.told(8), drops);
    }

    /** Pushes of the ticks 0, 1, .. from where it is, near enough the middle not to be pulled. */
    private static SwingYard pushed(int place, int... forces) {
        SwingYard x = Check.swing(400, 1, 0);
        for (int i = 0; i < forces.length; i++) {
            x.push(i, forces[i]);
        }
        x.begin(place);
        return x;
    }

    private static void aTurnNeedsAnotherSign() {
        for (int side = -1; side <= 1; side += 2) {
            SwingYard x = pushed(0, 9 * side, -9 * side, 4 * side, -4 * side, -5 * side, side, 4 * side, side);
            tick(x, "the first speed", 9 * side, 9 * side, 0, 1, 0, 1, 0);
            tick(x, "no speed", 9 * side, 0, 0, 2, 0, 2, 0);
            tick(x, "the same way again", 13 * side, 4 * side, 0, 3, 0, 3, 0);
            tick(x, "no speed again", 13 * side, 0, 0, 4, 0, 4, 0);
            tick(x, "another way, past no speed", 8 * side, -5 * side, 0, 5, 8, 5, 1);
            tick(x, "less, the same way", 4 * side, -4 * side, 0, 6, 8, 6, 1);
            tick(x, "no speed, the last was another", 4 * side, 0, 0, 7, 8, 7, 1);
            tick(x, "by 1", 5 * side, side, 0, 8, 5, 8, 2);
            CHECK.due("the last turn", x.turn(0), 5);
            CHECK.due("the first turn", x.turn(1), 8);
            CHECK.due("no third turn", x.turn(2), -1);
        }
    }

    private static void aTurnIsSeenSinceADrop() {
        SwingYard x = Check.swing(400, 1, 0);
        x.push(0, 2600);
        x.push(3, 6000);
        x.begin(1000000);
        tick(x, "the DROP", 1000000, 0, 0, 1, 1000000, 1, 1, 0, 1, 100);
        tick(x, "down: no turn", 997500, -2500, 0, 2, 1000000, 2, 1, 0, 1, 100);
        tick(x, "down: no turn yet", 992507, -4993, 0, 3, 1000000, 3, 1, 0, 1, 100);
        // -4993 + 6000 - 992507 / 400
        tick(x, "still down", 991033, -1474, 0, 4, 1000000, 4, 1, 0, 1, 100);
        x.push(4, 6000);
        // -1474 + 6000 - 2477
        tick(x, "up: a turn", 993082, 2049, 0, 5, 993082, 5, 2, 0, 1, 100);
        CHECK.due("the turn", x.turn(0), 993082);
        CHECK.due("the DROP is a turn, too", x.turn(1), 1000000);
    }

    private static void aTurnIsSeenSinceItBegan() {
        for (int side = -1; side <= 1; side += 2) {
            SwingYard first = Check.swing(400, 1, 0);
            first.push(0, 5 * side);
            tick(first, "a new one's first speed", 5 * side, 5 * side, 0, 1, 0, 1, 0);
            SwingYard x = pushed(0, 9 * side);
            tick(x, "one way", 9 * side, 9 * side, 0, 1, 0, 1, 0);
            x.rest();
            x.push(0, -7 * side);
            x.push(1, 8 * side);
            x.begin(-20 * side);
            tick(x, "begun, the other way: no turn", -27 * side, -7 * side, 0, 1, 20, 1, 0);
            tick(x, "since then: a turn", -26 * side, side, 0, 2, 26, 2, 1);
        }
    }

    private static void sinceTheMiddleWasPassed() {
        for (int side = -1; side <= 1; side += 2) {
            SwingYard x = pushed(0, 0, 5 * side, -10 * side, 0, 10 * side, -5 * side, 3 * side, -9 * side);
            tick(x, "0 in the middle", 0, 0, 0, 0);
            tick(x, "0 before: 1 more", 5 * side, 5 * side, 0, 1);
            tick(x, "back to the middle", 0, -5 * side, 0, 0);
            tick(x, "out at the other side, 0 before", -5 * side, -5 * side, 0, 1);
            tick(x, "to the middle from there", 0, 5 * side, 0, 0);
            tick(x, "it stays in the middle", 0, 0, 0, 0);
            tick(x, "out again", 3 * side, 3 * side, 0, 1);
            tick(x, "through the middle", -3 * side, -6 * side, 0, 0);
            tick(x, "further", -9 * side, -6 * side, 0, 1);
            x = pushed(side, -2 * side, 4 * side, 0);
            tick(x, "from 1 to -1", -side, -2 * side, 0, 0);
            tick(x, "from -1 to 1", side, 2 * side, 0, 0);
            tick(x, "on from 1", 3 * side, 2 * side, 0, 1);
        }
    }

    private static void beginsAtTheBar() {
        SwingYard x = Check.swing(400, 1, 0);
        for (int place : new int[] {1000000, -1000000, 1, -1, 0}) {
            x.push(0, 3000);
            x.tick(7);
            CHECK.due("begin(" + place + ")", x.begin(place), 1);
            CHECK.told(x, "begun", place, 0, 0, 0, Math.abs(place), 0, 0, 0, 0, 0, 0, 0);
            CHECK.due("no turn", x.turn(0), -1);
        }
    }

    private static void fewestAndMostTicks() {
        SwingYard x = Check.swing(70, 5, 0, 3, 2, 9, 4, 90);
        x.write('t');
        x.begin(200000);
        SwingYard single = Check.swing(70, 5, 0, 3, 2, 9, 4, 90);
        single.write('t');
        single.begin(200000);
        for (int i = 0; i < 499; i++) {
            single.tick(1);
        }
        CHECK.due("TICKS behind 499 of one", single.told(5), 499);
        CHECK.due("tick(500)", x.tick(500), single.tick(1));
        CHECK.due("digest() behind 500 ticks", x.digest(), single.digest());
    }

    /** Steps up and down by turns give a turn at every tick but the first: 2, 53, 4, 55, 6, 57, .. */
    private static void fortyHeightsAreKept() {
        for (int turns : new int[] {0, 1, 2, 38, 39, 40, 41, 42, 79, 80, 81, 120, 121}) {
            SwingYard x = Check.swing(400, 1, 0, 0, 1, 1);
            Check.law(x, "!h");
            x.push(0, -49);
            x.tick(turns + 1);
            CHECK.due("TURNS", x.told(6), turns);
            for (int i = 0; i < 40; i++) {
                int number = turns - i;
                int height = number % 2 == 0 ? 51 + number : number + 1;
                CHECK.due("turn(" + i + ") of " + turns, x.turn(i), number < 1 ? -1 : height);
            }
            CHECK.due("none of them is refused", x.status(0), 0);
            CHECK.bad(x, "turn(40) of " + turns, y -> y.turn(40), -2);
            x.begin(5);
            CHECK.due("turn(0), begun anew", x.turn(0), -1);
            CHECK.due("turn(39), begun anew", x.turn(39), -1);
            x.push(0, 1);
            x.tick(2);
            // by 52 up, by 48 down
            CHECK.due("turn(0), turned anew", x.turn(0), 9);
            CHECK.due("turn(1), turned anew", x.turn(1), -1);
        }
    }
}
