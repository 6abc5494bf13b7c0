/**
 * Promises 6, 7 and 12 to 15 at the edges that section 2 names: eight PUSHES, the first and the last of
 * their ticks, runs of 1 and of 500 ticks, fewer than two turns, a place of just 1000, the 500th tick.
 */
public final class EdgesOfRunsTest {
    private static final Check CHECK = new Check();

    public static void main(String[] args) {
        eightPushes();
        noPushes();
        pushesOfTheFirstAndTheLastTick();
        pushesOfTheLeastAndTheGreatestForce();
        manyPushesOfOneTick();
        runsLeaveAllAsItIs();
        peakIsBehindTheTicks();
        peakOfOneTickAndOfFiveHundred();
        peakAtTheBar();
        gainOfFewerThanTwoTurns();
        gainIsOfTheRunAlone();
        gainOfFiveHundred();
        worthInTheLastTickAndBehindIt();
        worthAtItsEdges();
        worthOfANinthPush();
        worthBehindTheLastTickOfPushes();
        beginsAtJustAThousand();
        beginsInTheFiveHundredthTick();
        beginsFromTheMiddle();
        CHECK.end();
    }

    private static SwingYard still() {
        return Check.swing(400, 1, 0);
    }

    private static void eightPushes() {
        SwingYard x = still();
        for (int i = 1; i <= 8; i++) {
            CHECK.due("push, the " + i + "th", x.push(0, i), i);
            CHECK.due("status(3)", x.status(3), i);
        }
        CHECK.refused(x, "push, the 9th", y -> y.push(0, 100), -4, 2);
        CHECK.refused(x, "push, the 9th again", y -> y.push(7, 0), -4, 2);
        CHECK.due("status(3) stays", x.status(3), 8);
        x.tick(1);
        CHECK.told(x, "all eight count, the ninth does not", 36, 36);
        CHECK.due("pushes that went by stay", x.status(3), 8);
        CHECK.due("rest() of eight", x.rest(), 8);
        CHECK.due("push behind rest", x.push(0, 1), 1);
    }

    private static void noPushes() {
        SwingYard x = still();
        CHECK.due("rest() of none", x.rest(), 0);
        x.push(0, 500);
        CHECK.due("rest() of one", x.rest(), 1);
        CHECK.due("rest() of none again", x.rest(), 0);
        CHECK.due("status(3)", x.status(3), 0);
        x.tick(1);
        CHECK.told(x, "no push", 0, 0);
    }

    private static void pushesOfTheFirstAndTheLastTick() {
        SwingYard x = still();
        x.push(0, 3);
        x.push(9999, 4);
        for (int i = 0; i < 20; i++) {
            x.tick(i == 0 ? 499 : 500);
        }
        CHECK.due("TICKS", x.told(5), 9999);
        CHECK.due("the SPEED ahead of it", x.told(1) >= -3 && x.told(1) <= 3 ? 1 : 0, 1);
        x.image(0);
        x.rest();
        x.tick(1);
        int without = x.told(1);
        x.from(0);
        x.tick(1);
        CHECK.due("the push of tick 9999", x.told(1), without + 4);
        x.from(0);
        x.rest();
        x.push(9998, 50);
        x.tick(1);
        CHECK.due("the push of the tick before is gone by", x.told(1), without);
        x.begin(0);
        x.rest();
        x.push(0, 3);
        x.tick(1);
        CHECK.told(x, "the push of tick 0", 3, 3);
        x.tick(1);
        CHECK.told(x, "it comes once", 6, 3);
    }

    private static void pushesOfTheLeastAndTheGreatestForce() {
        for (int force : new int[] {-30000, 30000, 0, 1, -1}) {
            SwingYard x = still();
            CHECK.due("push(0, " + force + ")", x.push(0, force), 1);
            x.tick(1);
            CHECK.told(x, "pushed by " + force, force, force);
        }
    }

    private static void manyPushesOfOneTick() {
        SwingYard x = still();
        for (int i = 0; i < 8; i++) {
            x.push(1, 30000);
        }
        x.tick(1);
        CHECK.told(x, "ahead of it", 0, 0);
        x.tick(1);
        CHECK.told(x, "eight of 30000", 240000, 240000);
        x.rest();
        for (int i = 0; i < 8; i++) {
            x.push(0, i % 2 == 0 ? 30000 : -30000);
        }
        x.begin(0);
        x.tick(1);
        CHECK.told(x, "they may cancel out", 0, 0);
    }

    private static void runsLeaveAllAsItIs() {
        SwingYard x = Check.amid(20);
        SwingYard twin = Check.amid(20);
        CHECK.leavesAll(x, "peak(500)", y -> y.peak(500));
        CHECK.leavesAll(x, "gain(500)", y -> y.gain(500));
        CHECK.leavesAll(x, "worth(499, 30000, 500)", y -> y.worth(499, 30000, 500));
        CHECK.leavesAll(x, "begins()", SwingYard::begins);
        CHECK.due("PUSHES", x.status(3), 2);
        for (int i = 0; i < 12; i++) {
            CHECK.due("tick(9) behind runs", x.tick(9), twin.tick(9));
            CHECK.due("digest() behind runs", x.digest(), twin.digest());
        }
    }

    private static void peakIsBehindTheTicks() {
        SwingYard x = still();
        x.begin(400);
        // from 400 by -1, -1, ..: where it is now does not count
        CHECK.due("peak(1)", x.peak(1), 399);
        CHECK.due("peak(3)", x.peak(3), 399);
        x.begin(-400);
        CHECK.due("peak(1), other side", x.peak(1), 399);
        x.begin(0);
        CHECK.due("peak(500) of rest", x.peak(500), 0);
    }

    private static void peakOfOneTickAndOfFiveHundred() {
        SwingYard x = still();
        x.push(0, 7);
        x.push(1, 20);
        CHECK.due("peak(1)", x.peak(1), 7);
        CHECK.due("peak(2)", x.peak(2), 34);
        SwingYard late = still();
        late.push(499, -5000);
        late.push(500, 30000);
        CHECK.due("peak(499): not yet", late.peak(499), 0);
        CHECK.due("peak(500): the push of tick 499", late.peak(500), 5000);
        late.tick(1);
        // -5000 + 30000 - -5000 / 400
        CHECK.due("peak(500), a tick on", late.peak(500), 20012);
    }

    private static void peakAtTheBar() {
        SwingYard x = still();
        x.push(0, 2499);
        x.begin(1000000);
        CHECK.due("peak(1), 1 below", x.peak(1), 999999);
        x.rest();
        x.push(0, 2500);
        CHECK.due("peak(1), at it", x.peak(1), 1000000);
        x.rest();
        x.push(0, 30000);
        CHECK.due("peak(1), a DROP", x.peak(1), 1000000);
    }

    /** A turn at each tick but the first, from 2, 53, 4, 55, .. as in EdgesOfTicksTest. */
    private static SwingYard turning() {
        SwingYard x = Check.swing(400, 1, 0, 0, 1, 1);
        Check.law(x, "!h");
        x.push(0, -49);
        return x;
    }

    private static void gainOfFewerThanTwoTurns() {
        SwingYard x = turning();
        CHECK.due("gain(1), no turn", x.gain(1), 0);
        CHECK.due("gain(2), one turn", x.gain(2), 0);
        CHECK.due("gain(3), two turns", x.gain(3), 51);
        CHECK.due("gain(4), three turns", x.gain(4), 2);
        CHECK.due("gain(500) of rest", still().gain(500), 0);
    }

    private static void gainIsOfTheRunAlone() {
        SwingYard x = turning();
        x.tick(2);
        CHECK.due("one turn so far", x.told(6), 1);
        // 53, 4, 55: the turn before is not of the run
        CHECK.due("gain(1), one turn", x.gain(1), 0);
        CHECK.due("gain(2), down", x.gain(2), -49);
        CHECK.due("gain(3)", x.gain(3), 2);
    }

    private static void gainOfFiveHundred() {
        SwingYard x = still();
        x.push(497, 5);
        x.push(498, -15);
        x.push(499, 35);
        x.push(500, -75);
        // speeds 5, -10, 25, -50; places 5, -5, 20, -30
        CHECK.due("gain(499), one turn", x.gain(499), 0);
        CHECK.due("gain(500)", x.gain(500), 15);
        x.tick(1);
        CHECK.due("gain(500), a tick on", x.gain(500), 25);
    }

    private static void worthInTheLastTickAndBehindIt() {
        for (int n : new int[] {1, 2, 7, 499, 500}) {
            SwingYard x = still();
            CHECK.due("worth in the last tick of " + n, x.worth(n - 1, -3000, n), 3000);
            if (n < 500) {
                CHECK.due("worth behind the last tick of " + n, x.worth(n, -3000, n), 0);
            }
        }
        CHECK.due("worth(499, 1, 1)", still().worth(499, 1, 1), 0);
    }

    private static void worthAtItsEdges() {
        SwingYard x = still();
        CHECK.due("worth(0, 30000, 1)", x.worth(0, 30000, 1), 30000);
        CHECK.due("worth(0, -30000, 1)", x.worth(0, -30000, 1), 30000);
        CHECK.due("worth(0, 0, 500)", x.worth(0, 0, 500), 0);
        x.begin(10000);
        // 10000 - 25 without it
        CHECK.due("worth that brakes", x.worth(0, -100, 1), -100);
        CHECK.due("worth that brakes to the middle", x.worth(0, -9975, 1), -9975);
        CHECK.due("worth beyond the middle", x.worth(0, -9976, 1), -9974);
        x.begin(1000000);
        CHECK.due("worth up to the bar", x.worth(0, 2500, 1), 2500);
        CHECK.due("worth beyond the bar", x.worth(0, 30000, 1), 2500);
    }

    private static void worthOfANinthPush() {
        SwingYard x = still();
        for (int i = 0; i < 8; i++) {
            x.push(0, 10);
        }
        CHECK.due("worth(0, 7, 1) beside eight", x.worth(0, 7, 1), 7);
        CHECK.due("it is not kept", x.status(3), 8);
        CHECK.due("it is not refused", x.status(2), 0);
        CHECK.due("peak(1) behind it", x.peak(1), 80);
    }

    private static void worthBehindTheLastTickOfPushes() {
        SwingYard x = still();
        for (int i = 0; i < 20; i++) {
            x.tick(500);
        }
        CHECK.due("TICKS", x.told(5), 10000);
        CHECK.due("worth(0, 100, 1) at tick 10000", x.worth(0, 100, 1), 100);
        CHECK.due("worth(499, 100, 500) from tick 10000", x.worth(499, 100, 500), 100);
    }

    private static void beginsAtJustAThousand() {
        int[][] pushes = {{999, 2}, {1000, 1}, {1001, 1}, {-999, 2}, {-1000, 1}, {-1001, 1}, {500, 3}, {501, 2}};
        for (int[] p : pushes) {
            SwingYard x = still();
            x.push(0, p[0]);
            CHECK.due("begins() pushed by " + p[0], x.begins(), p[1]);
        }
        SwingYard x = still();
        x.push(0, 500);
        x.tick(2);
        CHECK.told(x, "by 500 it is 999 at first", 999, 499);
    }

    private static void beginsInTheFiveHundredthTick() {
        for (int side = -1; side <= 1; side += 2) {
            SwingYard x = still();
            x.push(498, 1000 * side);
            CHECK.due("begins() in the 499th", x.begins(), 499);
            x.rest();
            x.push(499, 1000 * side);
            CHECK.due("begins() in the 500th", x.begins(), 500);
            x.rest();
            x.push(499, 999 * side);
            CHECK.due("begins() too late by 1", x.begins(), -1);
            x.rest();
            x.push(500, 30000 * side);
            CHECK.due("begins() in the 501st", x.begins(), -1);
            x.tick(1);
            CHECK.due("begins() from tick 1 on", x.begins(), 500);
            CHECK.due("none of them is refused", x.status(0), 0);
        }
        CHECK.due("begins() of rest", new SwingYard().begins(), -1);
    }

    /** Where it is, how fast, its POSTURE, SINCE, HEIGHT, the other one: all 0 but TICKS. */
    private static void beginsFromTheMiddle() {
        String[] laws = {"a=0", "v=0", "h+1", "t=0", "u=0", "(h=0)*2"};
        for (String law : laws) {
            for (int lean : new int[] {1, 5, 20}) {
                SwingYard anew = Check.swing(400, 1, 0, 0, 9, lean, 50, 50);
                SwingYard x = Check.swing(400, 1, 0, 0, 9, lean, 50, 50);
                x.begin(300000);
                Check.law(x, "5");
                x.tick(40);
                Check.law(x, law);
                Check.law(anew, law);
                CHECK.due("begins() by '" + law + "', LEAN " + lean, x.begins(), anew.begins());
                CHECK.due("it begins by '" + law + "'", lean < 20 || anew.begins() > 0 ? 1 : 0, 1);
            }
        }
        SwingYard x = Check.swing(400, 1, 0, 0, 9, 10);
        Check.law(x, "k=7");
        CHECK.due("begins() from tick 0", x.begins(), 8);
        x.tick(6);
        CHECK.due("begins() from tick 6", x.begins(), 2);
        x.tick(2);
        CHECK.due("begins() from tick 8", x.begins(), -1);
    }
}
