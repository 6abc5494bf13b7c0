import java.util.ArrayList;
import java.util.Arrays;
import java.util.List;
import java.util.Random;

/** All promises: runs of calls by chance (always the same ones), each answer against the Model's. */
public final class RandomRunsTest {
    private static final int RUNS = 200;
    // The document promises nothing behind 512 calls; a law and the end of a run take up to 70.
    private static final int CALLS = 440;
    private static final int FAULT_TEXTS = 60000;
    private static final Check CHECK = new Check();
    private static final int[][] LIMITS = {
        {50, 400}, {1, 9}, {0, 50}, {0, 4}, {1, 9}, {-90, 90}, {0, 50}, {50, 400}};
    private static final String[] CHEAP = {
        "put", "put", "law", "law", "erase", "fault", "push", "push", "rest", "begin", "begin", "tick", "tick",
        "tick", "told", "turn", "image", "from", "status", "digest", "write"};
    private static final String[] DEAR = {
        "peak", "gain", "worth", "begins", "best", "when", "far", "farthest", "swaps", "simplest"};

    private static Random chance;

    public static void main(String[] args) {
        for (int run = 0; run < RUNS; run++) {
            chance = new Random(run);
            goThrough(run);
        }
        chance = new Random(487);
        for (int i = 0; i < FAULT_TEXTS; i++) {
            faultOfAText();
        }
        CHECK.end();
    }

    private static void goThrough(int run) {
        SwingYard x = new SwingYard();
        Model model = new Model();
        List<String> calls = new ArrayList<>();
        while (calls.size() < CALLS) {
            String call = chance.nextInt(4) == 0 ? pick(DEAR) : pick(CHEAP);
            if (call.equals("law")) {
                both(run, x, model, calls, "erase");
                for (char c : text().toCharArray()) {
                    both(run, x, model, calls, "write", c);
                }
                both(run, x, model, calls, "fault");
            } else if (call.equals("when") && chance.nextInt(8) != 0) {
                continue;
            } else {
                both(run, x, model, calls, call, arguments(call));
            }
        }
        for (int i = 0; i < 4; i++) {
            both(run, x, model, calls, "status", i);
        }
        both(run, x, model, calls, "digest");
    }

    private static void both(int run, SwingYard x, Model model, List<String> calls, String call, int... arguments) {
        calls.add(call + Arrays.toString(arguments));
        CHECK.due("run " + run + ", call " + calls.size() + ": " + calls.get(calls.size() - 1),
                Calls.ask(x, call, arguments), model.ask(call, arguments));
    }

    private static String pick(String[] names) {
        return names[chance.nextInt(names.length)];
    }

    /** Mostly within, often at an edge, seldom beyond it or far off. */
    private static int number(int least, int most) {
        switch (chance.nextInt(40)) {
            case 0:
                return least - 1;
            case 1:
                return most + 1;
            case 2:
                return chance.nextBoolean() ? Integer.MIN_VALUE : Integer.MAX_VALUE;
            case 3:
            case 4:
                return least;
            case 5:
            case 6:
                return most;
            default:
                return least + chance.nextInt(most - least + 1);
        }
    }

    private static int run(int most) {
        return chance.nextInt(3) == 0 ? number(1, most) : number(1, Math.min(most, 90));
    }

    private static int[] arguments(String call) {
        switch (call) {
            case "put":
                int what = number(0, 7);
                boolean is = what >= 0 && what <= 7;
                return new int[] {what, is ? number(LIMITS[what][0], LIMITS[what][1]) : 50};
            case "write":
                return new int[] {number(0, 127)};
            case "push":
                return new int[] {chance.nextInt(3) == 0 ? number(0, 9999) : number(0, 200), number(-30000, 30000)};
            case "begin":
                return new int[] {number(-1000000, 1000000)};
            case "tick":
            case "peak":
            case "gain":
                return new int[] {run(500)};
            case "told":
                return new int[] {number(0, 11)};
            case "turn":
                return new int[] {number(0, 39)};
            case "worth":
                return new int[] {chance.nextInt(3) == 0 ? number(0, 499) : number(0, 60), number(-30000, 30000), run(500)};
            case "best":
                return new int[] {number(1, 12), number(-1, 4)};
            case "when":
                return new int[] {number(-30000, 30000), run(500), number(1, 40), number(0, 1)};
            case "far":
            case "farthest":
                return new int[] {number(0, 120)};
            case "swaps":
                return new int[] {run(500), number(0, 1)};
            case "simplest":
                return new int[] {run(300)};
            case "image":
            case "from":
                return new int[] {number(0, 1)};
            case "status":
                return new int[] {number(0, 3)};
            default:
                return new int[0];
        }
    }

    /** A text of a LAW: mostly sound, now and then with a sign more, less or another. */
    private static String text() {
        String text = value(2 + chance.nextInt(3));
        while (text.length() > 60) {
            text = value(2);
        }
        if (chance.nextInt(3) == 0) {
            return "9*(" + (text.length() > 50 ? "v>0" : text) + ")";
        }
        return chance.nextInt(6) == 0 ? spoilt(text) : text;
    }

    private static String spoilt(String text) {
        int at = chance.nextInt(text.length());
        String sign = String.valueOf("avhtuk0123456789()!-+*/<>=&| z(".charAt(chance.nextInt(31)));
        switch (chance.nextInt(3)) {
            case 0:
                return text.substring(0, at) + text.substring(at + 1);
            case 1:
                return text.substring(0, at) + sign + text.substring(at);
            default:
                return text.substring(0, at) + sign + text.substring(at + 1);
        }
    }

    private static String value(int depth) {
        switch (depth <= 0 ? 0 : chance.nextInt(11)) {
            case 1:
                return value(depth - 1) + "|" + value(depth - 1);
            case 2:
                return value(depth - 1) + "&" + value(depth - 1);
            case 3:
                return "(" + value(depth - 1) + ")" + "<>=".charAt(chance.nextInt(3)) + "(" + value(depth - 1) + ")";
            case 4:
            case 5:
                return part() + "<>=".charAt(chance.nextInt(3)) + part();
            case 6:
                return "(" + value(depth - 1) + ")" + "+-".charAt(chance.nextInt(2)) + part();
            case 7:
                return part() + "+-*/".charAt(chance.nextInt(4)) + part() + "+-*/".charAt(chance.nextInt(4)) + part();
            case 8:
                return "!-".charAt(chance.nextInt(2)) + "(" + value(depth - 1) + ")";
            case 9:
                return part() + " * (" + value(depth - 1) + ") ";
            default:
                return part();
        }
    }

    private static String part() {
        String sign = chance.nextInt(8) == 0 ? "-" : chance.nextInt(12) == 0 ? "!" : "";
        if (chance.nextInt(3) == 0) {
            int digits = 1 + chance.nextInt(chance.nextInt(6) + 1);
            return sign + chance.nextInt((int) Math.pow(10, digits));
        }
        return sign + "avhtuk".charAt(chance.nextInt(6));
    }

    /** Texts that are spoilt more than once, or of mere chance: only whether and where they are at fault. */
    private static void faultOfAText() {
        String text = text();
        for (int i = chance.nextInt(4); i > 0 && !text.isEmpty(); i--) {
            text = spoilt(text);
        }
        if (chance.nextInt(4) == 0) {
            StringBuilder any = new StringBuilder();
            for (int i = chance.nextInt(60); i >= 0; i--) {
                any.append("av1((((()))!-+</=&| ".charAt(chance.nextInt(20)));
            }
            text = any.toString();
        }
        text = text.substring(0, Math.min(60, text.length()));
        SwingYard x = new SwingYard();
        Check.law(x, text);
        CHECK.due("fault of '" + text + "'", x.fault(), Model.faultOf(text));
    }
}
