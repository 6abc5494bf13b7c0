import java.util.function.Supplier;

/** Promises 16 to 21: best, when, far, farthest, swaps, simplest. */
public final class BestTest {
    private static final Check CHECK = new Check();
    private static final int[] POSTURES = {0, 4, 9};

    public static void main(String[] args) {
        bestAsReallyTried(() -> Check.amid(20), 1);
        bestAsReallyTried(() -> Check.amid(20), 3);
        bestAsReallyTried(() -> begun(441023, 17, 117, 6, 0, 4, 1), 2);
        bestAsReallyTried(() -> begun(691966, 13, 244, 8, 1, 2, 2), 1);
        bestAsReallyTried(() -> begun(628023, 14, 218, 8, 1, 2, 1, -63), 1);
        bestEachTimeAnew();
        bestOfLikeOnes();
        bestWithoutALaw();
        whenByWorth();
        farByHand();
        farAsReallyGone();
        farthestByFar();
        swapsAsReallyGone();
        swapsOfRest();
        simplestAsReallyRuled();
        simplestAtItsEdges();
        simplestNone();
        wrongInputs();
        CHECK.end();
    }

    private static SwingYard begun(int place, int ticks, int... numbers) {
        SwingYard x = Check.swing(numbers);
        x.begin(place);
        x.tick(ticks);
        return x;
    }

    private static void bestAsReallyTried(Supplier<SwingYard> made, int m) {
        int best = -1;
        int[] row = new int[5];
        for (int all = 0; all < 243; all++) {
            SwingYard really = made.get();
            int[] tried = new int[5];
            int rest = all;
            for (int i = 4; i >= 0; i--) {
                tried[i] = POSTURES[rest % 3];
                rest /= 3;
            }
            int peak = 0;
            for (int i = 0; i < 5; i++) {
                Check.law(really, String.valueOf(tried[i]));
                for (int passed = 0; passed < m; passed++) {
                    really.tick(1);
                    peak = Math.max(peak, Math.abs(really.told(0)));
                }
            }
            if (peak > best) {
                best = peak;
                row = tried;
            }
        }
        SwingYard x = made.get();
        CHECK.leavesAll(x, "best(" + m + ", -1)", y -> y.best(m, -1));
        CHECK.due("best(" + m + ", -1)", x.best(m, -1), best);
        for (int i = 0; i < 5; i++) {
            CHECK.due("best(" + m + ", " + i + ")", x.best(m, i), row[i]);
        }
    }

    private static void bestOfLikeOnes() {
        SwingYard x = Check.swing(200, 2, 0);
        CHECK.due("best(12, -1) of rest", x.best(12, -1), 0);
        for (int i = 0; i < 5; i++) {
            CHECK.due("best(12, " + i + ") of rest", x.best(12, i), 0);
        }
        // with LEAN, QUICK 9 and STEP 0 up at once is best: 900, 1798, 2692, 3580, 4460
        x = Check.swing(400, 1, 0, 0, 9, 1);
        CHECK.due("best(1, -1), LEAN", x.best(1, -1), 4460);
        for (int i = 0; i < 5; i++) {
            CHECK.due("best(1, " + i + "), LEAN", x.best(1, i), 9);
        }
    }

    private static void bestEachTimeAnew() {
        SwingYard x = Check.swing(400, 1, 0, 0, 9, 1);
        CHECK.due("best(12, -1) is higher", x.best(12, -1) > 4460 ? 1 : 0, 1);
        CHECK.due("best(1, -1) behind it", x.best(1, -1), 4460);
    }

    private static void bestWithoutALaw() {
        SwingYard x = Check.amid(20);
        int best = x.best(4, -1);
        int third = x.best(4, 2);
        Check.law(x, "1+");
        CHECK.due("best(4, -1) with a FAULT", x.best(4, -1), best);
        CHECK.due("best(4, 2) with a FAULT", x.best(4, 2), third);
    }

    private static void whenByWorth() {
        int[] forces = {4000, -4000, 30000, -30000, 0};
        for (int force : forces) {
            for (int j = 1; j <= 40; j += 13) {
                SwingYard x = Check.amid(20);
                int best = Integer.MIN_VALUE;
                int at = -1;
                int brakes = 0;
                for (int i = 0; i < j; i++) {
                    int worth = x.worth(i, force, 30);
                    brakes += worth < 0 ? 1 : 0;
                    if (worth > best) {
                        best = worth;
                        at = i;
                    }
                }
                String call = "when(" + force + ", 30, " + j + ")";
                int most = j;
                CHECK.leavesAll(x, call, y -> y.when(force, 30, most, 0));
                CHECK.due(call + " 0", x.when(force, 30, j, 0), at);
                CHECK.due(call + " 1", x.when(force, 30, j, 1), brakes);
            }
        }
        SwingYard x = Check.swing(200, 2, 0);
        x.begin(300000);
        // up there it helps at first, on the way down it brakes
        CHECK.due("when(9000, 30, 5, 0)", x.when(9000, 30, 5, 0), 0);
        CHECK.due("when(9000, 30, 5, 1)", x.when(9000, 30, 5, 1), 3);
    }

    private static void farByHand() {
        SwingYard x = Check.swing(200, 2, 0);
        // up 50, 2 * 8 * 8 is 100 or more
        CHECK.due("far(0) of rest", x.far(0), 0);
        x.push(0, 1000);
        x.tick(1);
        CHECK.due("far(0): (1000 + 1000 * 8) * 200 / 1000", x.far(0), 1800);
        // 50 + 200 * 500 * 500 / 2000000 = 75: f = 9; 300 / 2 = 150
        x.rest();
        x.begin(500999);
        CHECK.due("far(0) at rest up there", x.far(0), 100199);
        x.push(0, -20000);
        x.tick(1);
        // a = 500999 - 25009 = 475990, v = -25009; 50 + 200 * 475 * 475 / 2000000 = 72; f = 9
        CHECK.due("far(0) backward", x.far(0), 50181);
        // 2 f f of 100 itself: PULL 1 and 50: 10 ticks, not 11
        x = Check.swing(400, 1, 0);
        x.push(0, 1000);
        x.tick(1);
        CHECK.due("far(0), PULL 1", x.far(0), 4400);
        x = Check.swing(400, 4, 0);
        x.push(0, 1000);
        x.tick(1);
        CHECK.due("far(0), PULL 4: 5 ticks", x.far(0), 2400);
        // 50 + 200 * 100 * 100 / 2000000 = 51: 11 ticks, where 50 would be 10
        x = Check.swing(200, 1, 0);
        x.push(0, 550);
        x.begin(100000);
        x.tick(1);
        CHECK.due("far(0), PULL 1: 11 ticks", x.far(0), 20120);
        // 99999 is 99 thousands: 10 ticks
        x.rest();
        x.push(0, 599);
        x.begin(99900);
        x.tick(1);
        CHECK.told(x, "just below", 100000, 100);
        x.begin(99899);
        x.tick(1);
        CHECK.told(x, "just below", 99999, 100);
        CHECK.due("far(0), PULL 1: 10 ticks", x.far(0), 20199);
        // LENGTH is that of its POSTURE; -1999 by 1000 is -1
        x = Check.swing(50, 9, 0, 4, 9);
        Check.law(x, "9");
        x.begin(-1999);
        x.tick(1);
        // v = 9 * 1999 / 14 = 1285, a = -714; f = 4: (-714 + 5140) * 14 / 1000
        CHECK.due("far(0), LENGTH 14", x.far(0), 61);
    }

    private static void farAsReallyGone() {
        SwingYard x = Check.amid(20);
        SwingYard really = Check.amid(20);
        for (int i = 0; i <= 120; i++) {
            CHECK.due("far(" + i + ")", x.far(i), really.far(0));
            really.tick(1);
        }
        CHECK.leavesAll(x, "far(77)", y -> y.far(77));
    }

    private static void farthestByFar() {
        SwingYard x = Check.amid(20);
        int best = Integer.MIN_VALUE;
        int at = -1;
        for (int n = 0; n <= 120; n++) {
            if (x.far(n) > best) {
                best = x.far(n);
                at = n;
            }
            CHECK.due("farthest(" + n + ")", x.farthest(n), at);
        }
        CHECK.due("it is not the first", at > 0 ? 1 : 0, 1);
        CHECK.leavesAll(x, "farthest(120)", y -> y.farthest(120));
        CHECK.due("farthest(120) of rest", new SwingYard().farthest(120), 0);
    }

    private static void swapsAsReallyGone() {
        int begun = 0;
        for (int n = 1; n <= 90; n += n < 30 ? 1 : 9) {
            SwingYard x = Check.amid(20);
            SwingYard really = Check.amid(20);
            int greatest = -1;
            int first = 0;
            for (int i = 1; i <= n; i++) {
                really.tick(1);
                int distance = Math.abs(really.told(10));
                if (distance > greatest) {
                    greatest = distance;
                    first = i;
                }
            }
            begun += first < n ? 1 : 0;
            int run = n;
            CHECK.leavesAll(x, "swaps(" + n + ")", y -> y.swaps(run, 0));
            CHECK.due("swaps(" + n + ", 0)", x.swaps(n, 0), greatest);
            CHECK.due("swaps(" + n + ", 1)", x.swaps(n, 1), first);
        }
        CHECK.due("some come down again", begun > 3 ? 1 : 0, 1);
    }

    /** As for PEAK, what stands behind its ticks counts: the first of like ones is behind 1 tick. */
    private static void swapsOfRest() {
        SwingYard x = new SwingYard();
        CHECK.due("swaps(500, 0) of rest", x.swaps(500, 0), 0);
        CHECK.due("swaps(500, 1) of rest", x.swaps(500, 1), 1);
    }

    /** The RULE told as a LAW, from TICKS 0. */
    private static boolean pumps(int[] numbers, int push, int s, int n) {
        for (int place : new int[] {100000, 300000, 600000}) {
            SwingYard x = Check.swing(numbers);
            x.push(5, push);
            Check.law(x, "9*(a<50000*" + s + "&-a<50000*" + s + ")");
            x.begin(place);
            x.tick(n);
            if (x.told(6) == 0 || x.turn(0) <= place) {
                return false;
            }
        }
        return true;
    }

    private static void simplestAsReallyRuled() {
        int[][] swings = {
            {200, 2, 1, 2, 3, 0, 0, 200}, {50, 9, 0, 4, 9, 0, 0, 200}, {120, 5, 3, 3, 2, 10, 3, 100},
            {400, 1, 0, 4, 1, 0, 0, 200}, {100, 3, 0, 2, 2, 0, 0, 200}, {80, 2, 5, 4, 3, 0, 0, 200},
            {90, 4, 1, 1, 1, 5, 0, 200}, {374, 3, 26, 3, 7, 90, 0, 200}};
        int found = 0;
        for (int[] numbers : swings) {
            for (int n : new int[] {1, 20, 40, 41, 42, 43, 44, 45, 54, 90, 150, 300}) {
                int want = -1;
                for (int s = 20; s >= 0; s--) {
                    want = pumps(numbers, 900, s, n) ? s : want;
                }
                found += want > 0 ? 1 : 0;
                SwingYard x = Check.swing(numbers);
                x.push(5, 900);
                int run = n;
                CHECK.leavesAll(x, "simplest(" + n + ")", y -> y.simplest(run));
                CHECK.due("simplest(" + n + ") of ROPE " + numbers[0], x.simplest(n), want);
            }
        }
        CHECK.due("some pump", found > 5 ? 1 : 0, 1);
        // where it is and what LAW it has does not count
        SwingYard x = Check.swing(50, 9, 0, 4, 9, 0, 0, 200);
        int want = x.simplest(100);
        x.begin(777777);
        Check.law(x, "9*(v>0)");
        x.tick(77);
        CHECK.due("simplest(100) from elsewhere", x.simplest(100), want);
    }

    private static void simplestAtItsEdges() {
        CHECK.due("simplest(54) is 20", Check.swing(374, 3, 26, 3, 7, 90).simplest(54), 20);
        // POSTURE 9 at the bar, too, would do it, but there is no rule for that
        SwingYard high = Check.swing(400, 4, 30, 0, 9, 79);
        high.push(0, 29232);
        CHECK.due("simplest(53), not by 20", high.simplest(53), -1);
        // pushed up and down: turns at 105130, 302248 and 600000, which is not higher
        SwingYard x = Check.swing(400, 1, 0, 0);
        x.push(0, 3000);
        x.push(1, -1497);
        CHECK.due("simplest(10), as high as that", x.simplest(10), -1);
        x.rest();
        x.push(0, 3000);
        x.push(1, -1496);
        CHECK.due("simplest(10), higher by 1", x.simplest(10), 0);
        CHECK.due("simplest(6)", x.simplest(6), 0);
        CHECK.due("simplest(5): not turned yet", x.simplest(5), -1);
        x.tick(1);
        CHECK.due("simplest(10), TICKS are as they are", x.simplest(10), -1);
    }

    private static void simplestNone() {
        SwingYard x = Check.swing(200, 2, 50, 0);
        CHECK.due("simplest(300), none", x.simplest(300), -1);
        CHECK.leavesAll(x, "simplest(300), none", y -> y.simplest(300));
        // with no loss and no steps it comes as high, not higher
        CHECK.due("simplest(300), as high", Check.swing(200, 2, 0, 0).simplest(300), -1);
    }

    private static void wrongInputs() {
        SwingYard x = Check.amid(20);
        int[] far = {Integer.MIN_VALUE, Integer.MAX_VALUE};
        for (int wrong : new int[] {0, 13, -1, far[0], far[1]}) {
            CHECK.bad(x, "best(" + wrong + ", 0)", y -> y.best(wrong, 0), -2);
        }
        for (int wrong : new int[] {-2, 5, far[0], far[1]}) {
            CHECK.bad(x, "best(1, " + wrong + ")", y -> y.best(1, wrong), -2);
        }
        for (int wrong : new int[] {-30001, 30001, far[0], far[1]}) {
            CHECK.bad(x, "when(" + wrong + ", 1, 1, 0)", y -> y.when(wrong, 1, 1, 0), -2);
        }
        for (int wrong : new int[] {0, 501, far[0], far[1]}) {
            CHECK.bad(x, "when(0, " + wrong + ", 1, 0)", y -> y.when(0, wrong, 1, 0), -2);
            CHECK.bad(x, "swaps(" + wrong + ", 0)", y -> y.swaps(wrong, 0), -2);
        }
        for (int wrong : new int[] {0, 41, far[0], far[1]}) {
            CHECK.bad(x, "when(0, 1, " + wrong + ", 0)", y -> y.when(0, 1, wrong, 0), -2);
        }
        for (int wrong : new int[] {-1, 2, far[0], far[1]}) {
            CHECK.bad(x, "when(0, 1, 1, " + wrong + ")", y -> y.when(0, 1, 1, wrong), -2);
            CHECK.bad(x, "swaps(1, " + wrong + ")", y -> y.swaps(1, wrong), -2);
        }
        for (int wrong : new int[] {-1, 121, far[0], far[1]}) {
            CHECK.bad(x, "far(" + wrong + ")", y -> y.far(wrong), -1000000000);
            CHECK.bad(x, "farthest(" + wrong + ")", y -> y.farthest(wrong), -2);
        }
        for (int wrong : new int[] {0, 301, -1, far[0], far[1]}) {
            CHECK.bad(x, "simplest(" + wrong + ")", y -> y.simplest(wrong), -2);
        }
    }
}
