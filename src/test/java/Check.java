import java.util.function.Consumer;
import java.util.function.ToLongFunction;

/** What every test needs: it prints each answer that is not due, and ends with exit code 1 then. */
final class Check {
    private int asked = 0;
    private int wrong = 0;

    void due(String call, long got, long want) {
        asked++;
        if (got != want) {
            wrong++;
            System.out.println(call + " answered " + got + ", due is " + want);
        }
    }

    /** A refusal: the answer is as due, one count of STATUS goes up by 1, and nothing else changes. */
    void refused(SwingYard x, String call, ToLongFunction<SwingYard> asking, long want, int counted) {
        long before = x.digest();
        int[] counts = {x.status(0), x.status(1), x.status(2)};
        counts[counted]++;
        due(call, asking.applyAsLong(x), want);
        for (int i = 0; i < 3; i++) {
            due("status(" + i + ") behind " + call, x.status(i), counts[i]);
        }
        due("digest() behind " + call, x.digest(), before);
    }

    void bad(SwingYard x, String call, ToLongFunction<SwingYard> asking, long want) {
        refused(x, call, asking, want, 0);
    }

    /** What is only asked leaves all as it is, STATUS too. */
    void leavesAll(SwingYard x, String call, Consumer<SwingYard> asking) {
        long before = x.digest();
        int[] counts = {x.status(0), x.status(1), x.status(2)};
        asking.accept(x);
        for (int i = 0; i < 3; i++) {
            due("status(" + i + ") behind " + call, x.status(i), counts[i]);
        }
        due("digest() behind " + call, x.digest(), before);
    }

    void told(SwingYard x, String where, int... wanted) {
        for (int i = 0; i < wanted.length; i++) {
            due(where + ": told(" + i + ")", x.told(i), wanted[i]);
        }
    }

    void end() {
        System.out.println(asked + " answers, " + wrong + " of them not as due");
        if (wrong != 0 || asked == 0) {
            System.exit(1);
        }
    }

    /** Writes a text in place of the LAW that there is. */
    static void law(SwingYard x, String text) {
        x.erase();
        for (int i = 0; i < text.length(); i++) {
            x.write(text.charAt(i));
        }
    }

    /** A new object with these numbers of THE SWING, ROPE to BESIDE. */
    static SwingYard swing(int... numbers) {
        SwingYard x = new SwingYard();
        for (int i = 0; i < numbers.length; i++) {
            x.put(i, numbers[i]);
        }
        return x;
    }

    /** In the middle of things: a law, pushes gone by or to come, the other one, and turns behind it. */
    static SwingYard amid(int ticks) {
        SwingYard x = swing(120, 3, 2, 3, 2, 15, 7, 90);
        law(x, "9*(a*v<0)+(u>200000&t>3)");
        x.push(22, 9000);
        x.push(40, -12000);
        x.begin(250000);
        x.tick(ticks);
        return x;
    }
}
