/** Promises 12 to 15: peak, gain, worth, begins; each against an object that really goes there. */
public final class RunsTest {
    private static final Check CHECK = new Check();

    public static void main(String[] args) {
        peakByHand();
        peakAndGainAsReallyGone();
        gainOfFewTurns();
        worthAsReallyPushed();
        worthBeyondPushes();
        begins();
        wrongInputs();
        CHECK.end();
    }

    private static void peakByHand() {
        SwingYard x = Check.swing(50, 9, 0);
        x.begin(50);
        // 41, 25, 5, -15, -33, -46, -51, -47: where it is now does not count
        CHECK.due("peak(1)", x.peak(1), 41);
        CHECK.due("peak(5)", x.peak(5), 41);
        CHECK.due("peak(6)", x.peak(6), 46);
        CHECK.due("peak(7)", x.peak(7), 51);
        CHECK.due("peak(8)", x.peak(8), 51);
        CHECK.due("peak of rest", new SwingYard().peak(500), 0);
    }

    private static void peakAndGainAsReallyGone() {
        for (int n = 1; n <= 110; n += n < 10 ? 1 : 13) {
            SwingYard x = Check.amid(20);
            int run = n;
            CHECK.leavesAll(x, "peak(" + n + ")", y -> y.peak(run));
            CHECK.leavesAll(x, "gain(" + n + ")", y -> y.gain(run));
            int peak = 0;
            int turns = 0;
            int first = 0;
            int last = 0;
            SwingYard really = Check.amid(20);
            for (int i = 0; i < n; i++) {
                int before = really.told(6);
                really.tick(1);
                peak = Math.max(peak, Math.abs(really.told(0)));
                if (really.told(6) > before) {
                    last = really.told(4);
                    first = turns == 0 ? last : first;
                    turns++;
                }
            }
            CHECK.due("peak(" + n + ")", x.peak(n), peak);
            CHECK.due("gain(" + n + ")", x.gain(n), turns < 2 ? 0 : last - first);
        }
    }

    private static void gainOfFewTurns() {
        SwingYard x = Check.swing(50, 9, 0);
        x.begin(50);
        CHECK.due("gain(7), no turn", x.gain(7), 0);
        CHECK.due("gain(8), one turn", x.gain(8), 0);
        x = Check.swing(200, 2, 50);
        x.begin(500000);
        CHECK.due("gain with losses is below 0", x.gain(500) < 0 ? 1 : 0, 1);
    }

    private static void worthAsReallyPushed() {
        int seen = 0;
        for (int i = 0; i < 60; i += 3) {
            SwingYard x = Check.amid(20);
            SwingYard pushed = Check.amid(20);
            pushed.push(20 + i, -7000);
            int want = pushed.peak(60) - x.peak(60);
            seen += want != 0 ? 1 : 0;
            int from = i;
            CHECK.leavesAll(x, "worth(" + i + ")", y -> y.worth(from, -7000, 60));
            CHECK.due("worth(" + i + ", -7000, 60)", x.worth(i, -7000, 60), want);
        }
        CHECK.due("some are worth something", seen > 3 ? 1 : 0, 1);
        CHECK.due("worth(60, 7000, 60): too late", Check.amid(20).worth(60, 7000, 60), 0);
        CHECK.due("worth(5, 0, 60): no force", Check.amid(20).worth(5, 0, 60), 0);
        SwingYard rest = Check.swing(400, 1, 0);
        CHECK.due("worth(0, 100, 1)", rest.worth(0, 100, 1), 100);
        CHECK.due("worth(0, -30000, 1)", rest.worth(0, -30000, 1), 30000);
        CHECK.due("worth(499, 30000, 500)", rest.worth(499, 30000, 500), 30000);
    }

    private static void worthBeyondPushes() {
        SwingYard x = Check.swing(400, 1, 0);
        for (int i = 0; i < 8; i++) {
            x.push(i, 10);
        }
        CHECK.due("worth with 8 PUSHES there", x.worth(0, 100, 1), 100);
        x.rest();
        for (int i = 0; i < 20; i++) {
            x.tick(500);
        }
        CHECK.due("TICKS", x.told(5), 10000);
        CHECK.due("worth behind tick 9999", x.worth(3, 100, 5), 200);
    }

    private static void begins() {
        SwingYard x = new SwingYard();
        CHECK.due("begins() of rest", x.begins(), -1);
        x = Check.swing(400, 1, 0);
        x.push(0, 999);
        CHECK.due("begins(), 999 and 998 more", x.begins(), 2);
        x.rest();
        x.push(3, 1000);
        CHECK.due("begins(), pushed at tick 3", x.begins(), 4);
        CHECK.leavesAll(x, "begins()", SwingYard::begins);
        x.tick(2);
        CHECK.due("begins(), TICKS are as they are", x.begins(), 2);
        x.tick(2);
        CHECK.due("begins(), the push is gone by", x.begins(), -1);
        x.rest();
        x.push(503, -1000);
        CHECK.due("begins(), in the 500th", x.begins(), 500);
        x.rest();
        x.push(504, -1000);
        CHECK.due("begins(), in the 501st", x.begins(), -1);
        // from POSTURE 0 with SINCE, HEIGHT, SPEED and the other one 0, whatever there is now
        x = Check.swing(200, 2, 0, 0, 1, 2, 50);
        Check.law(x, "6*(u=0)*(t<9)*(h<9)+h*0");
        x.begin(400000);
        x.tick(30);
        SwingYard anew = Check.swing(200, 2, 0, 0, 1, 2, 50);
        Check.law(anew, "6*(u=0)*(t<9)*(h<9)+h*0");
        CHECK.due("begins() from elsewhere", x.begins(), anew.begins());
        CHECK.due("it does begin", anew.begins() > 0 ? 1 : 0, 1);
    }

    private static void wrongInputs() {
        SwingYard x = Check.amid(20);
        for (int wrong : new int[] {0, 501, -1, Integer.MIN_VALUE, Integer.MAX_VALUE}) {
            CHECK.bad(x, "peak(" + wrong + ")", y -> y.peak(wrong), -2);
            CHECK.bad(x, "gain(" + wrong + ")", y -> y.gain(wrong), -10000000);
            CHECK.bad(x, "worth(0, 1, " + wrong + ")", y -> y.worth(0, 1, wrong), -10000000);
        }
        for (int wrong : new int[] {-1, 500, Integer.MIN_VALUE, Integer.MAX_VALUE}) {
            CHECK.bad(x, "worth(" + wrong + ", 1, 9)", y -> y.worth(wrong, 1, 9), -10000000);
        }
        for (int wrong : new int[] {-30001, 30001, Integer.MIN_VALUE, Integer.MAX_VALUE}) {
            CHECK.bad(x, "worth(0, " + wrong + ", 9)", y -> y.worth(0, wrong, 9), -10000000);
        }
        CHECK.leavesAll(new SwingYard(), "begins(), none", SwingYard::begins);
    }
}
