/**
 * Promises 16 to 21 at the edges that section 3 names: 1 and 12 ticks for a posture, like ones, i 0 and
 * i 39, letting go at once and behind 120 ticks, a fall that is just long enough, a RULE just below a
 * place and just at it, a turn as high as that and higher by 1.
 */
public final class EdgesOfBestTest {
    private static final Check CHECK = new Check();

    public static void main(String[] args) {
        bestOfLikeOnesIsTheFirst();
        bestWithTheFewestAndMostTicks();
        bestIsWishedInPlaceOfTheLaw();
        bestAtTheBar();
        whenOfLikeOnesIsTheLeast();
        whenOfOne();
        whenOfForty();
        brakesAreBelowZero();
        brakesOfForty();
        whenWithTheGreatestForces();
        farAtOnceAndBehindTheLast();
        farFallsJustLongEnough();
        farFromTheBar();
        farCutsTowardZero();
        farthestOfLikeOnesIsTheLeast();
        farthestAtOnceAndBehindTheLast();
        swapsOfOneTickAndOfFiveHundred();
        swapsIsFirstSo();
        swapsOfRest();
        swapsAtTheBar();
        ruleBelowItsPlace();
        ruleOfZeroAndTwenty();
        pumpsIfHigher();
        pumpsIfItTurned();
        pumpsFromAllThree();
        simplestIsTheLeast();
        simplestOfOneTickAndOfThreeHundred();
        CHECK.end();
    }

    private static SwingYard still() {
        return Check.swing(400, 1, 0, 0);
    }

    private static void best(String what, SwingYard x, int m, int peak, int... row) {
        CHECK.due("best(" + m + ", -1), " + what, x.best(m, -1), peak);
        for (int i = 0; i < 5; i++) {
            CHECK.due("best(" + m + ", " + i + "), " + what, x.best(m, i), row[i]);
        }
        CHECK.due("none is refused, " + what, x.status(0), 0);
    }

    private static void bestOfLikeOnesIsTheFirst() {
        for (int m = 1; m <= 12; m++) {
            best("all are like", still(), m, 0, 0, 0, 0, 0, 0);
        }
        SwingYard x = still();
        x.begin(-400);
        // no STEP, no LEAN: the first tick is the highest, whatever the row
        best("all are like, up there", x, 1, 399, 0, 0, 0, 0, 0);
        // with QUICK 1 the wishes 4 and 9 are like for four ticks: 100, 300, 600, 999, 1496
        best("4 before 9", Check.swing(400, 1, 0, 0, 1, 1), 1, 1496, 4, 4, 4, 4, 9);
        // with QUICK 4 for the first one alone: 400, 1199, 2096, 2988, 3873
        best("4 before 9, QUICK 4", Check.swing(400, 1, 0, 0, 4, 1), 1, 3873, 4, 9, 9, 9, 9);
    }

    private static void bestWithTheFewestAndMostTicks() {
        // 900 at once and then on: 900, 1798, 2692, 3580, 4460
        best("one tick each", Check.swing(400, 1, 0, 0, 9, 1), 1, 4460, 9, 9, 9, 9, 9);
        SwingYard x = still();
        x.push(59, 1000);
        x.push(60, 30000);
        best("the 60th tick is of it", x, 12, 1000, 0, 0, 0, 0, 0);
        x.tick(1);
        best("and the 61st is not", x, 11, 0, 0, 0, 0, 0, 0);
        CHECK.due("peak(60) from tick 1 on", x.peak(60), x.best(12, -1));
        SwingYard y = still();
        y.push(4, 1000);
        y.push(5, 30000);
        best("five ticks, not six", y, 1, 1000, 0, 0, 0, 0, 0);
    }

    private static void bestIsWishedInPlaceOfTheLaw() {
        for (String law : new String[] {"", "9", "0", "4", "1+", "h"}) {
            SwingYard x = Check.swing(400, 1, 0, 0, 1, 1);
            Check.law(x, law);
            best("LAW '" + law + "'", x, 1, 1496, 4, 4, 4, 4, 9);
        }
    }

    private static void bestAtTheBar() {
        SwingYard x = Check.swing(400, 1, 0, 0, 9, 90);
        x.begin(999999);
        // 975100 behind four ticks of 0: from there 9 brings a DROP, and 4 comes to 998728
        best("at the bar at last", x, 1, 1000000, 0, 0, 0, 0, 9);
    }

    private static void when(SwingYard x, int force, int n, int j, int at, int brakes) {
        String call = "when(" + force + ", " + n + ", " + j + ", ";
        CHECK.due(call + "0)", x.when(force, n, j, 0), at);
        CHECK.due(call + "1)", x.when(force, n, j, 1), brakes);
        CHECK.due("none is refused", x.status(0), 0);
    }

    private static void whenOfLikeOnesIsTheLeast() {
        SwingYard x = Check.amid(20);
        when(x, 0, 30, 40, 0, 0);
        when(x, 0, 500, 1, 0, 0);
        SwingYard up = still();
        up.begin(300000);
        // in one tick only i 0 can do something: it brakes, all others are worth 0
        when(up, -100, 1, 40, 1, 1);
        when(up, -100, 1, 2, 1, 1);
        // it helps: all others are worth 0
        when(up, 100, 1, 40, 0, 0);
    }

    private static void whenOfOne() {
        SwingYard up = still();
        up.begin(300000);
        // the only one is the greatest, even if it brakes
        when(up, -100, 1, 1, 0, 1);
        when(up, 100, 1, 1, 0, 0);
        when(still(), 100, 1, 1, 0, 0);
    }

    private static void whenOfForty() {
        SwingYard x = Check.swing(265, 3, 16);
        x.begin(150000);
        CHECK.due("worth(39)", x.worth(39, 11000, 82), 28133);
        CHECK.due("worth(40) is greater", x.worth(40, 11000, 82), 30694);
        CHECK.due("when of 40 is the last", x.when(11000, 82, 40, 0), 39);
        CHECK.due("when of 39 is not", x.when(11000, 82, 39, 0) < 38 ? 1 : 0, 1);
    }

    private static void brakesAreBelowZero() {
        SwingYard x = still();
        x.begin(10000);
        // worth -100, 0, 0, ..: the first tick is the highest without it
        when(x, -100, 5, 5, 1, 1);
        CHECK.due("worth(0)", x.worth(0, -100, 5), -100);
        CHECK.due("worth(1)", x.worth(1, -100, 5), 0);
        CHECK.due("worth of 1 less", x.worth(0, -1, 1), -1);
        when(x, -1, 1, 1, 0, 1);
        CHECK.due("worth of nothing", x.worth(0, 0, 1), 0);
        when(x, 0, 1, 1, 0, 0);
        CHECK.due("worth of 1 more", x.worth(0, 1, 1), 1);
        when(x, 1, 1, 1, 0, 0);
    }

    private static void brakesOfForty() {
        SwingYard x = Check.swing(189, 3, 0);
        x.begin(150000);
        CHECK.due("worth(39) is below 0", x.worth(39, -9000, 71) < 0 ? 1 : 0, 1);
        CHECK.due("worth(40) too", x.worth(40, -9000, 71) < 0 ? 1 : 0, 1);
        CHECK.due("BRAKES of 40", x.when(-9000, 71, 40, 1), 13);
        CHECK.due("BRAKES of 39", x.when(-9000, 71, 39, 1), 12);
    }

    private static void whenWithTheGreatestForces() {
        when(still(), 30000, 1, 40, 0, 0);
        when(still(), -30000, 1, 40, 0, 0);
        SwingYard x = still();
        x.begin(1000000);
        // all that is above the bar is lost: 30000 and 2500 are worth the same
        CHECK.due("worth of 30000", x.worth(0, 30000, 1), 2500);
        when(x, 30000, 1, 40, 0, 0);
        when(x, -30000, 1, 40, 1, 1);
    }

    private static void farAtOnceAndBehindTheLast() {
        SwingYard x = still();
        x.push(0, 10);
        x.push(119, 1000);
        x.push(120, 30000);
        x.begin(0);
        CHECK.due("far(0)", x.far(0), 0);
        // (10 + 10 * 10) * 400 / 1000
        CHECK.due("far(1)", x.far(1), 44);
        SwingYard late = still();
        late.push(119, 1000);
        late.push(120, 30000);
        CHECK.due("far(119)", late.far(119), 0);
        CHECK.due("far(120)", late.far(120), 4400);
    }

    /** PULL f f is as much as twice that: 50 up is 100, and 51 is 102. */
    private static void farFallsJustLongEnough() {
        int[] falls = {10, 8, 6, 5, 5, 5, 4, 4, 4};
        for (int pull = 1; pull <= 9; pull++) {
            SwingYard x = Check.swing(400, pull, 0, 0);
            x.push(0, 10);
            x.tick(1);
            CHECK.due("far(0), PULL " + pull, x.far(0), 10 * (1 + falls[pull - 1]) * 400 / 1000);
        }
        for (int side = -1; side <= 1; side += 2) {
            // 200 * 100 * 100 / 2000000 is 1, 200 * 99 * 99 / 2000000 is 0
            SwingYard x = Check.swing(200, 1, 0, 0);
            x.push(0, 600 * side);
            x.begin(99900 * side);
            x.tick(1);
            CHECK.told(x, "a hundred thousands", 100001 * side, 101 * side);
            CHECK.due("far(0) with 51 up: 11 ticks", x.far(0), side * (100001 + 101 * 11) / 5);
            x.rest();
            x.push(0, 598 * side);
            x.begin(99900 * side);
            x.tick(1);
            CHECK.told(x, "ninety-nine thousands", 99999 * side, 99 * side);
            CHECK.due("far(0) with 50 up: 10 ticks", x.far(0), side * (99999 + 99 * 10) / 5);
        }
    }

    private static void farFromTheBar() {
        // at the bar with LENGTH 400: 50 + 400 * 1000 * 1000 / 2000000 = 250, 23 * 23 = 529 is 500 or more
        SwingYard x = still();
        x.push(0, 2400);
        x.begin(1000000);
        CHECK.due("far(0) at the bar", x.far(0), 400000);
        x.tick(1);
        // 999900 is 999 thousands: 50 + 199 = 249, 498: 23 ticks
        CHECK.told(x, "below the bar", 999900, -100);
        CHECK.due("far(0) below the bar", x.far(0), (999900 - 100 * 23) * 2 / 5);
        x.begin(-1000000);
        CHECK.due("far(0) at the other bar", x.far(0), -400000);
        // the shortest: 9 * 1000000 / 14 = 642857; up by 50 and 14 * 357 * 357 / 2000000 = 0: 4 ticks
        SwingYard s = Check.swing(50, 9, 0, 4, 9);
        Check.law(s, "9");
        s.begin(1000000);
        s.tick(1);
        CHECK.told(s, "LENGTH 14", 357143, -642857, 9);
        CHECK.due("far(0), LENGTH 14", s.far(0), -30999);
        CHECK.due("none of them is refused", s.status(0) + x.status(0), 0);
    }

    private static void farCutsTowardZero() {
        int[] places = {0, 1, 2, 3, 4, 5, 9, 10};
        int[] fars = {0, 0, 0, 1, 1, 2, 3, 4};
        for (int i = 0; i < places.length; i++) {
            SwingYard x = still();
            x.begin(places[i]);
            CHECK.due("far(0) from " + places[i], x.far(0), fars[i]);
            x.begin(-places[i]);
            CHECK.due("far(0) from -" + places[i], x.far(0), -fars[i]);
        }
    }

    private static void farthestOfLikeOnesIsTheLeast() {
        for (int place : new int[] {0, 399, -399}) {
            SwingYard x = still();
            x.begin(place);
            // it is not pulled there, and stays
            CHECK.due("far(0) from " + place, x.far(0), place * 2 / 5);
            CHECK.due("far(120) from " + place, x.far(120), place * 2 / 5);
            CHECK.due("farthest(120) from " + place, x.farthest(120), 0);
            CHECK.due("farthest(0) from " + place, x.farthest(0), 0);
        }
        SwingYard x = still();
        x.push(3, 5);
        x.push(4, -5);
        // far 0, 0, 0, 0, then (5 + 5 * 10) * 400 / 1000 = 22, then 5 * 400 / 1000 = 2 and so on
        CHECK.due("farthest(3)", x.farthest(3), 0);
        CHECK.due("farthest(4)", x.farthest(4), 4);
        CHECK.due("farthest(120)", x.farthest(120), 4);
        x.push(60, 5);
        x.push(61, -5);
        CHECK.due("far(61) is less", x.far(61) - x.far(4), 2);
        CHECK.due("farthest(61)", x.farthest(61), 61);
        x.rest();
        x.push(3, 5);
        x.push(4, -10);
        x.push(5, 5);
        x.push(6, 5);
        x.push(7, -10);
        // speeds 5, -5, 0, 5, -5 and places 5, 0, 0, 5, 0: 22 behind 4 ticks and behind 7
        CHECK.due("far(4)", x.far(4), 22);
        CHECK.due("far(7)", x.far(7), 22);
        CHECK.due("farthest(7) is the least", x.farthest(7), 4);
    }

    private static void farthestAtOnceAndBehindTheLast() {
        SwingYard x = still();
        x.begin(1000000);
        CHECK.due("farthest(0)", x.farthest(0), 0);
        CHECK.due("farthest(30): down from there", x.farthest(30), 0);
        SwingYard late = still();
        late.push(119, 1000);
        late.push(120, 30000);
        CHECK.due("farthest(119)", late.farthest(119), 0);
        CHECK.due("farthest(120)", late.farthest(120), 120);
        // backward is less far than not at all
        SwingYard back = still();
        back.push(0, -1000);
        CHECK.due("farthest(9) backward", back.farthest(9), 0);
        back.tick(1);
        CHECK.due("far(0) is below 0", back.far(0), -4400);
        CHECK.due("farthest(0), below 0", back.farthest(0), 0);
    }

    /** With GIVE 50 the other one takes a twentieth of how far the two are apart. */
    private static SwingYard given(int place) {
        SwingYard x = Check.swing(400, 1, 0, 0, 9, 0, 50, 400);
        x.begin(place);
        return x;
    }

    private static void swapsOfOneTickAndOfFiveHundred() {
        for (int side = -1; side <= 1; side += 2) {
            SwingYard x = given(20 * side);
            CHECK.due("swaps(1, 0)", x.swaps(1, 0), 1);
            CHECK.due("swaps(1, 1)", x.swaps(1, 1), 1);
            SwingYard y = given(200 * side);
            // 10 at once; then 50 * (10 - 190) / 1000 = -9 more: 29
            CHECK.due("swaps(2, 0)", y.swaps(2, 0), 29);
            CHECK.due("swaps(2, 1)", y.swaps(2, 1), 2);
        }
        SwingYard late = Check.swing(400, 1, 0, 0, 9, 0, 50, 400);
        late.push(498, 100);
        late.push(499, 10000);
        // given 50 * (0 - 100) / 1000 at tick 499, nothing before
        CHECK.due("swaps(499, 0)", late.swaps(499, 0), 0);
        CHECK.due("swaps(499, 1)", late.swaps(499, 1), 1);
        CHECK.due("swaps(500, 0)", late.swaps(500, 0), 5);
        CHECK.due("swaps(500, 1)", late.swaps(500, 1), 500);
    }

    private static void swapsIsFirstSo() {
        SwingYard x = given(20);
        x.tick(1);
        x.put(6, 0);
        CHECK.told(x, "the other one", 19, -1, 0, 1, 20, 1, 0, 0, 0, 0, 1, 1);
        // it goes on to 400 by 1 and is pulled there: at 400 for 1 tick more
        CHECK.due("swaps(398, 0)", x.swaps(398, 0), 399);
        CHECK.due("swaps(399, 0)", x.swaps(399, 0), 400);
        CHECK.due("swaps(399, 1)", x.swaps(399, 1), 399);
        CHECK.due("swaps(400, 0): as high", x.swaps(400, 0), 400);
        CHECK.due("swaps(400, 1): the first", x.swaps(400, 1), 399);
        CHECK.due("swaps(500, 1)", x.swaps(500, 1), 399);
        x.tick(399);
        CHECK.due("the other one there", x.told(10), 400);
        // where it is now does not count, as for PEAK
        x.tick(1);
        CHECK.due("swaps(1, 0), coming down", x.swaps(1, 0), 399);
    }

    /** As for PEAK, what stands behind its ticks counts: the first of like ones is behind 1 tick. */
    private static void swapsOfRest() {
        SwingYard x = new SwingYard();
        CHECK.due("swaps(1, 0) of rest", x.swaps(1, 0), 0);
        CHECK.due("swaps(1, 1) of rest", x.swaps(1, 1), 1);
        CHECK.due("swaps(500, 0) of rest", x.swaps(500, 0), 0);
        CHECK.due("swaps(500, 1) of rest", x.swaps(500, 1), 1);
        // without GIVE it has no part in what the child does
        x.begin(900000);
        CHECK.due("swaps(500, 0) without GIVE", x.swaps(500, 0), 0);
    }

    private static void swapsAtTheBar() {
        SwingYard x = Check.swing(200, 2, 1, 2, 3, 60, 20, 200);
        Check.law(x, "9*(v>0)");
        x.begin(300000);
        CHECK.due("swaps(202, 0)", x.swaps(202, 0) < 1000000 ? 1 : 0, 1);
        CHECK.due("swaps(203, 0)", x.swaps(203, 0), 1000000);
        CHECK.due("swaps(203, 1)", x.swaps(203, 1), 203);
        CHECK.due("swaps(260, 1): the first time", x.swaps(260, 1), 203);
    }

    private static SwingYard ruled(int[] numbers, int... pushes) {
        SwingYard x = Check.swing(numbers);
        for (int i = 0; i < pushes.length; i += 2) {
            x.push(pushes[i], pushes[i + 1]);
        }
        return x;
    }

    /** The least s by the RULE told as a LAW, with below that place, from TICKS 0. */
    private static int simplestByLaws(int[] numbers, int n, int below, int... pushes) {
        for (int s = 0; s <= 20; s++) {
            int pumped = 0;
            for (int place : new int[] {100000, 300000, 600000}) {
                SwingYard x = ruled(numbers, pushes);
                Check.law(x, "9*(a<50000*" + s + "+" + below + "&-a<50000*" + s + "+" + below + ")");
                x.begin(place);
                x.tick(n);
                pumped += x.turn(0) > place ? 1 : 0;
            }
            if (pumped == 3) {
                return s;
            }
        }
        return -1;
    }

    /** Swings that come to a place of a RULE exactly, or to 1 below it: a wish there decides. */
    private static void ruleBelowItsPlace() {
        int[][] swings = {
            {400, 3, 0, 0, 9, 85}, {55, 9, 0, 0, 9, -88}, {276, 3, 0, 0, 9, 90}, {400, 7, 21, 0, 9, 88},
            {288, 3, 0, 4, 9, 0}, {78, 9, 0, 0, 9, -49}};
        int[][] pushes = {
            {0, 2486}, {2, 19105}, {1, 12477}, {1, -23300, 0, 24694, 1, 10587},
            {0, 26938, 2, 7658, 2, -27881}, {1, -23743, 7, -28047, 5, 17485}};
        int[] ticks = {8, 9, 9, 3, 3, 9};
        int[] least = {-1, 7, 12, 4, -1, 1};
        int[] leastIfLess = {12, 8, 13, 5, 3, 3};
        for (int i = 0; i < swings.length; i++) {
            CHECK.due("1 below decides, case " + i, simplestByLaws(swings[i], ticks[i], -1, pushes[i]), leastIfLess[i]);
            CHECK.due("below, case " + i, simplestByLaws(swings[i], ticks[i], 0, pushes[i]), least[i]);
            CHECK.due("simplest, case " + i, ruled(swings[i], pushes[i]).simplest(ticks[i]), least[i]);
        }
        int[][] just = {{400, 5, 0, 1, 9, 84}, {271, 1, 44, 2, 9, 59}, {400, 6, 5, 0, 9, 34}, {190, 8, 0, 0, 9, 89}};
        int[][] justPushes = {{0, 18450}, {0, 14420}, {2, -20996}, {0, 21837}};
        int[] justTicks = {8, 8, 8, 8};
        int[] justLeast = {3, 7, 13, 14};
        int[] leastIfMore = {2, 6, 12, 12};
        for (int i = 0; i < just.length; i++) {
            CHECK.due("just at it decides, case " + i, simplestByLaws(just[i], justTicks[i], 1, justPushes[i]), leastIfMore[i]);
            CHECK.due("just at it, case " + i, simplestByLaws(just[i], justTicks[i], 0, justPushes[i]), justLeast[i]);
            CHECK.due("simplest at it, case " + i, ruled(just[i], justPushes[i]).simplest(justTicks[i]), justLeast[i]);
        }
    }

    private static void ruleOfZeroAndTwenty() {
        // by 0 POSTURE 9 is wished nowhere: with LEAN -90 each step up would spoil it
        int[] spoilt = {400, 1, 0, 0, 9, -90};
        CHECK.due("simplest(10) by 0", ruled(spoilt, 0, 3000, 1, -1496).simplest(10), 0);
        CHECK.due("simplest(54) by 20", Check.swing(374, 3, 26, 3, 7, 90).simplest(54), 20);
        // by 21 it would be wished at the bar, too, and do
        int[] high = {400, 4, 30, 0, 9, 79};
        CHECK.due("by 20 it is not", simplestByLaws(high, 53, 0, 0, 29232), -1);
        CHECK.due("at the bar it would", simplestByLaws(high, 53, 1, 0, 29232), 20);
        CHECK.due("simplest(53)", ruled(high, 0, 29232).simplest(53), -1);
    }

    /** Pushes of three ticks turn it just as high as one of the places, or higher by 1. */
    private static void pumpsIfHigher() {
        int[][] cases = {{100000, 3687, -2190, -5154}, {300000, 5106, -2562, -5661}, {600000, -602, 6802, -2808}};
        for (int[] c : cases) {
            for (int more = -1; more <= 1; more++) {
                SwingYard x = still();
                x.push(0, c[1]);
                x.push(1, c[2]);
                x.push(2, c[3] + more);
                CHECK.due("simplest(3), " + more + " to " + c[0], x.simplest(3), more == 1 ? 0 : -1);
                x.begin(c[0]);
                x.tick(3);
                CHECK.due("the turn, " + more + " to " + c[0], x.turn(0), c[0] + more);
            }
        }
    }

    private static void pumpsIfItTurned() {
        SwingYard x = still();
        x.push(0, 3000);
        x.push(1, -1496);
        CHECK.due("simplest(5): higher, but not turned", x.simplest(5), -1);
        x.begin(600000);
        CHECK.due("peak(5)", x.peak(5) > 600000 ? 1 : 0, 1);
        CHECK.due("simplest(6)", x.simplest(6), 0);
        CHECK.due("simplest(300) of rest", Check.swing(400, 1, 0, 0).simplest(300), -1);
        CHECK.due("none of them is refused", x.status(0), 0);
    }

    /** What was before does not count: its own turns, POSTURE and the other one are forgotten. */
    private static void pumpsFromAllThree() {
        int[] numbers = {95, 1, 0, 2, 4, 24, 14, 330};
        int least = simplestByLaws(numbers, 60, 0);
        CHECK.due("it pumps", least > 0 ? 1 : 0, 1);
        SwingYard x = Check.swing(numbers);
        CHECK.due("simplest(60)", x.simplest(60), least);
        for (int ticks = 1; ticks < 60; ticks += 11) {
            x.begin(-900000);
            Check.law(x, "9*(v>0)");
            x.tick(ticks);
            CHECK.due("simplest(60) behind " + ticks, x.simplest(60), least);
        }
    }

    private static void simplestIsTheLeast() {
        int[][] swings = {{200, 2, 1, 2, 3, 0}, {50, 9, 0, 4, 9, 0}, {100, 3, 0, 2, 2, 0}, {374, 3, 26, 3, 7, 90}, {120, 5, 3, 3, 2, 10}};
        for (int[] numbers : swings) {
            for (int n : new int[] {30, 54, 100, 299, 300}) {
                CHECK.due("simplest(" + n + ") of ROPE " + numbers[0],
                        Check.swing(numbers).simplest(n), simplestByLaws(numbers, n, 0));
            }
        }
    }

    private static void simplestOfOneTickAndOfThreeHundred() {
        CHECK.due("simplest(299)", Check.swing(79, 3, 1, 2, 7, 7).simplest(299), -1);
        CHECK.due("simplest(300)", Check.swing(79, 3, 1, 2, 7, 7).simplest(300), 1);
        CHECK.due("simplest(299), other", Check.swing(365, 1, 2, 4, 4, 33).simplest(299), 16);
        CHECK.due("simplest(300), other", Check.swing(365, 1, 2, 4, 4, 33).simplest(300), -1);
        // behind one tick there is no turn, as no DROP can be so high
        SwingYard x = Check.swing(50, 1, 0, 0, 9, 90);
        for (int i = 0; i < 8; i++) {
            x.push(0, 30000);
        }
        CHECK.due("simplest(1)", x.simplest(1), -1);
        CHECK.due("none of them is refused", x.status(0), 0);
    }
}
