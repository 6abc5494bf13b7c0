/** Promises 6 and 7: push, rest, and what pushes do. */
public final class PushTest {
    private static final Check CHECK = new Check();

    public static void main(String[] args) {
        counting();
        wrongInputs();
        doing();
        CHECK.end();
    }

    private static void counting() {
        SwingYard x = new SwingYard();
        CHECK.due("push(0, -30000)", x.push(0, -30000), 1);
        CHECK.due("push(9999, 30000)", x.push(9999, 30000), 2);
        for (int i = 3; i <= 8; i++) {
            CHECK.due("push " + i, x.push(5, i), i);
            CHECK.due("status(3)", x.status(3), i);
        }
        CHECK.refused(x, "push, full", y -> y.push(5, 9), -4, 2);
        CHECK.bad(x, "push, full and bad", y -> y.push(10000, 9), -2);
        CHECK.due("rest()", x.rest(), 8);
        CHECK.due("status(3)", x.status(3), 0);
        CHECK.due("rest() again", x.rest(), 0);
        CHECK.due("push behind rest", x.push(1, 1), 1);
    }

    private static void wrongInputs() {
        SwingYard x = new SwingYard();
        CHECK.bad(x, "push(-1, 0)", y -> y.push(-1, 0), -2);
        CHECK.bad(x, "push(10000, 0)", y -> y.push(10000, 0), -2);
        CHECK.bad(x, "push(0, 30001)", y -> y.push(0, 30001), -2);
        CHECK.bad(x, "push(0, -30001)", y -> y.push(0, -30001), -2);
        CHECK.bad(x, "push(MIN, 0)", y -> y.push(Integer.MIN_VALUE, 0), -2);
        CHECK.bad(x, "push(0, MIN)", y -> y.push(0, Integer.MIN_VALUE), -2);
        CHECK.due("status(3)", x.status(3), 0);
    }

    private static void doing() {
        SwingYard x = Check.swing(400, 1, 0);
        x.push(2, 50);
        x.push(2, 30);
        x.push(2, -10);
        x.push(1, 5);
        x.tick(1);
        CHECK.told(x, "no push of tick 0", 0, 0);
        x.tick(1);
        CHECK.told(x, "tick 1", 5, 5);
        x.tick(1);
        CHECK.told(x, "tick 2: all three", 80, 75);
        x.tick(1);
        CHECK.told(x, "tick 3: none", 155, 75);
        x.begin(0);
        x.tick(2);
        CHECK.told(x, "they stay and come again", 5, 5);
        x.rest();
        x.tick(1);
        CHECK.told(x, "without", 10, 5);
        // LOSS takes from what the push gave too; LEAN and bending come before it
        x = Check.swing(200, 1, 50, 4, 9, 1);
        x.push(0, 1000);
        Check.law(x, "9");
        x.tick(1);
        CHECK.told(x, "push, LEAN and LOSS", 1805, 1805, 9);
    }
}
