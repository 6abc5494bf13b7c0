import java.util.ArrayDeque;
import java.util.ArrayList;
import java.util.Deque;
import java.util.List;

/**
 * The document a second time, written in another way and without care for speed, for RandomRunsTest:
 * the LAW is worked from its text at each tick with two stacks, a FAULT is found by what may stand
 * where, every run goes from a copy of all there is, and BEST tries each row from its first tick.
 */
final class Model {
    private static final long[][] LIMITS = {
        {50, 400, 200}, {1, 9, 2}, {0, 50, 1}, {0, 4, 2}, {1, 9, 3}, {-90, 90, 0}, {0, 50, 0}, {50, 400, 200}};

    /** All that an image keeps. */
    private static final class Yard {
        long[] numbers = new long[8];
        String law = "";
        List<long[]> pushes = new ArrayList<>();
        long a;
        long v;
        long h;
        long t;
        long u;
        long k;
        long b;
        long w;
        long strength;
        List<Long> dropped = new ArrayList<>();
        List<Long> turned = new ArrayList<>();
        /** Speeds behind ticks since it began or since a DROP. */
        List<Long> speeds = new ArrayList<>();

        Yard copy() {
            Yard y = new Yard();
            y.numbers = numbers.clone();
            y.law = law;
            y.pushes.addAll(pushes);
            y.a = a;
            y.v = v;
            y.h = h;
            y.t = t;
            y.u = u;
            y.k = k;
            y.b = b;
            y.w = w;
            y.strength = strength;
            y.dropped.addAll(dropped);
            y.turned.addAll(turned);
            y.speeds.addAll(speeds);
            return y;
        }

        Yard anew(long place) {
            Yard y = copy();
            y.a = place;
            y.v = 0;
            y.h = 0;
            y.t = 0;
            y.u = 0;
            y.b = 0;
            y.w = 0;
            y.speeds.clear();
            y.turned.clear();
            return y;
        }

        long length(long posture) {
            return numbers[0] - numbers[3] * posture;
        }

        void tickByLaw() {
            tickTo(faultOf(law) == -1 ? valueOf(law, this) : h);
        }

        void tickTo(long wished) {
            long wish = wished < 0 ? 0 : wished > 9 ? 9 : wished;
            long speedAhead = v < 0 ? -v : v;
            long placeAhead = a;
            long m = length(h);
            long was = h;
            for (long i = 0; i < numbers[4] && h != wish; i++) {
                h += wish > h ? 1 : -1;
                strength = Math.min(1000000000, strength + 10 + speedAhead / 10000);
            }
            long n = length(h);
            v = v * m * m / (n * n) + 100 * numbers[5] * (h - was);
            for (long[] push : pushes) {
                if (push[0] == k) {
                    v += push[1];
                }
            }
            long give = numbers[6] * (b - a) / 1000;
            v = v - numbers[1] * a / n + give;
            w = w - numbers[1] * b / numbers[7] - give;
            v = v - v * numbers[2] / 1000;
            w = w - w * numbers[2] / 1000;
            a += v;
            b += w;
            if (b > 1000000 || b < -1000000) {
                b = b > 0 ? 1000000 : -1000000;
                w = 0;
            }
            boolean turns = false;
            if (a > 1000000 || a < -1000000) {
                dropped.add(a > 0 ? a - 1000000 : -1000000 - a);
                a = a > 0 ? 1000000 : -1000000;
                v = 0;
                speeds.clear();
                turns = true;
            }
            turns |= isOtherWay();
            speeds.add(v);
            if (turns) {
                u = Math.abs(a);
                turned.add(u);
            }
            t = a == 0 || Long.signum(a) * Long.signum(placeAhead) < 0 ? 0 : t + 1;
            k++;
        }

        private boolean isOtherWay() {
            for (int i = speeds.size() - 1; i >= 0; i--) {
                if (speeds.get(i) != 0) {
                    return v != 0 && v > 0 != speeds.get(i) > 0;
                }
            }
            return false;
        }

        long far() {
            double up = 50 + (length(h) * (a / 1000) * (a / 1000)) / 2000000;
            long f = 0;
            while (numbers[1] * f * f < 2 * up) {
                f++;
            }
            return (a + v * f) * length(h) / 1000;
        }
    }

    private Yard now = new Yard();
    private final Yard[] images = new Yard[2];
    private final int[] refusals = new int[3];

    Model() {
        for (int i = 0; i < 8; i++) {
            now.numbers[i] = LIMITS[i][2];
        }
    }

    long ask(String call, int... x) {
        switch (call) {
            case "put":
                return put(x[0], x[1]);
            case "write":
                return write(x[0]);
            case "erase":
                int were = now.law.length();
                now.law = "";
                return were;
            case "fault":
                return faultOf(now.law);
            case "push":
                return push(x[0], x[1]);
            case "rest":
                int pushes = now.pushes.size();
                now.pushes = new ArrayList<>();
                return pushes;
            case "begin":
                return begin(x[0]);
            case "tick":
                return tick(x[0]);
            case "told":
                return x[0] < 0 || x[0] > 11 ? bad(-10000000) : told(x[0]);
            case "turn":
                return x[0] < 0 || x[0] > 39 ? bad(-2) : turn(x[0]);
            case "image":
                return image(x[0]);
            case "from":
                return from(x[0]);
            case "status":
                return x[0] == 3 ? now.pushes.size() : x[0] < 0 || x[0] > 3 ? bad(-1) : refusals[x[0]];
            case "digest":
                return digest();
            default:
                return askRun(call, x);
        }
    }

    private long askRun(String call, int... x) {
        switch (call) {
            case "peak":
                return isRun(x[0]) ? peak(x[0], 0, 0) : bad(-2);
            case "gain":
                return isRun(x[0]) ? gain(x[0]) : bad(-10000000);
            case "worth":
                return x[0] < 0 || x[0] > 499 || !isForce(x[1]) || !isRun(x[2])
                        ? bad(-10000000) : worth(x[0], x[1], x[2]);
            case "begins":
                return begins();
            case "best":
                return x[0] < 1 || x[0] > 12 || x[1] < -1 || x[1] > 4 ? bad(-2) : best(x[0], x[1]);
            case "when":
                return !isForce(x[0]) || !isRun(x[1]) || x[2] < 1 || x[2] > 40 || x[3] < 0 || x[3] > 1
                        ? bad(-2) : when(x[0], x[1], x[2], x[3]);
            case "far":
                return x[0] < 0 || x[0] > 120 ? bad(-1000000000) : far(x[0]);
            case "farthest":
                return x[0] < 0 || x[0] > 120 ? bad(-2) : farthest(x[0]);
            case "swaps":
                return !isRun(x[0]) || x[1] < 0 || x[1] > 1 ? bad(-2) : swaps(x[0], x[1]);
            case "simplest":
                return x[0] < 1 || x[0] > 300 ? bad(-2) : simplest(x[0]);
            default:
                throw new IllegalArgumentException(call);
        }
    }

    private long bad(long answer) {
        refusals[0]++;
        return answer;
    }

    private static boolean isRun(int n) {
        return n >= 1 && n <= 500;
    }

    private static boolean isForce(int force) {
        return force >= -30000 && force <= 30000;
    }

    private long put(int what, int v) {
        if (what < 0 || what > 7 || v < LIMITS[what][0] || v > LIMITS[what][1]) {
            return bad(-100);
        }
        long was = now.numbers[what];
        now.numbers[what] = v;
        return was;
    }

    private long write(int character) {
        if (character < 0 || character > 127) {
            return bad(-2);
        }
        if (now.law.length() == 60) {
            refusals[2]++;
            return -4;
        }
        now.law += (char) character;
        return now.law.length();
    }

    private long push(int tick, int force) {
        if (tick < 0 || tick > 9999 || !isForce(force)) {
            return bad(-2);
        }
        if (now.pushes.size() == 8) {
            refusals[2]++;
            return -4;
        }
        now.pushes.add(new long[] {tick, force});
        return now.pushes.size();
    }

    private long begin(int place) {
        if (place < -1000000 || place > 1000000) {
            return bad(-2);
        }
        Yard y = new Yard();
        y.numbers = now.numbers;
        y.law = now.law;
        y.pushes = now.pushes;
        y.a = place;
        y.u = place < 0 ? -place : place;
        now = y;
        return 1;
    }

    private long tick(int n) {
        if (!isRun(n)) {
            return bad(-2);
        }
        for (int i = 0; i < n; i++) {
            now.tickByLaw();
        }
        return now.u;
    }

    private long told(int what) {
        long greatest = 0;
        for (long drop : now.dropped) {
            greatest = Math.max(greatest, drop);
        }
        long[] all = {now.a, now.v, now.h, now.t, now.u, now.k, now.turned.size(), now.strength,
            now.dropped.size(), greatest, now.b, now.w};
        return all[what];
    }

    private long turn(int i) {
        return i < now.turned.size() ? now.turned.get(now.turned.size() - 1 - i) : -1;
    }

    private long image(int i) {
        if (i != 0 && i != 1) {
            return bad(-2);
        }
        images[i] = now.copy();
        return 1;
    }

    private long from(int i) {
        if (i != 0 && i != 1) {
            return bad(-2);
        }
        if (images[i] == null) {
            refusals[1]++;
            return -3;
        }
        now = images[i].copy();
        return 1;
    }

    private long digest() {
        List<Long> all = new ArrayList<>();
        for (long number : now.numbers) {
            all.add(number);
        }
        all.add((long) now.law.length());
        for (char c : now.law.toCharArray()) {
            all.add((long) c);
        }
        for (long[] push : now.pushes) {
            all.add(push[0]);
            all.add(push[1]);
        }
        for (int i = 0; i < 12; i++) {
            all.add(told(i));
        }
        for (int i = 0; i < 40; i++) {
            all.add(turn(i));
        }
        long h = 487;
        for (long v : all) {
            h = 31 * h + v;
        }
        return h;
    }

    private long peak(int n, long i, long force) {
        Yard y = now.copy();
        y.pushes.add(new long[] {y.k + i, force});
        long peak = 0;
        for (int passed = 0; passed < n; passed++) {
            y.tickByLaw();
            peak = Math.max(peak, Math.abs(y.a));
        }
        return peak;
    }

    private long gain(int n) {
        Yard y = now.copy();
        y.turned.clear();
        for (int i = 0; i < n; i++) {
            y.tickByLaw();
        }
        return y.turned.size() < 2 ? 0 : y.turned.get(y.turned.size() - 1) - y.turned.get(0);
    }

    private long worth(int i, int force, int n) {
        return peak(n, i, force) - peak(n, 0, 0);
    }

    private long begins() {
        Yard y = now.anew(0);
        for (int i = 1; i <= 500; i++) {
            y.tickByLaw();
            if (y.a >= 1000 || y.a <= -1000) {
                return i;
            }
        }
        return -1;
    }

    private long best(int m, int what) {
        long best = -1;
        long[] bestRow = new long[5];
        for (int all = 0; all < 243; all++) {
            long[] row = {all / 81, all / 27 % 3, all / 9 % 3, all / 3 % 3, all % 3};
            Yard y = now.copy();
            long peak = 0;
            for (int i = 0; i < 5 * m; i++) {
                y.tickTo(row[i / m] == 0 ? 0 : row[i / m] == 1 ? 4 : 9);
                peak = Math.max(peak, Math.abs(y.a));
            }
            if (peak > best) {
                best = peak;
                bestRow = row;
            }
        }
        return what == -1 ? best : bestRow[what] == 2 ? 9 : 4 * bestRow[what];
    }

    private long when(int force, int n, int j, int what) {
        List<Long> worths = new ArrayList<>();
        for (int i = 0; i < j; i++) {
            worths.add(worth(i, force, n));
        }
        if (what == 1) {
            return worths.stream().filter(x -> x < 0).count();
        }
        return worths.indexOf(worths.stream().max(Long::compare).get());
    }

    private long far(int i) {
        Yard y = now.copy();
        for (int passed = 0; passed < i; passed++) {
            y.tickByLaw();
        }
        return y.far();
    }

    private long farthest(int n) {
        List<Long> fars = new ArrayList<>();
        for (int i = 0; i <= n; i++) {
            fars.add(far(i));
        }
        return fars.indexOf(fars.stream().max(Long::compare).get());
    }

    private long swaps(int n, int what) {
        Yard y = now.copy();
        List<Long> places = new ArrayList<>();
        for (int i = 0; i < n; i++) {
            y.tickByLaw();
            places.add(Math.abs(y.b));
        }
        long greatest = places.stream().max(Long::compare).get();
        return what == 0 ? greatest : 1 + places.indexOf(greatest);
    }

    private long simplest(int n) {
        for (int s = 0; s <= 20; s++) {
            int pumped = 0;
            for (long place : new long[] {100000, 300000, 600000}) {
                Yard y = now.anew(place);
                for (int i = 0; i < n; i++) {
                    y.tickTo(y.a < 50000L * s && -y.a < 50000L * s ? 9 : 0);
                }
                pumped += !y.turned.isEmpty() && y.turned.get(y.turned.size() - 1) > place ? 1 : 0;
            }
            if (pumped == 3) {
                return s;
            }
        }
        return -1;
    }

    /** By what may stand where: ahead of a part or behind one, in how many (, and compared or not. */
    static int faultOf(String law) {
        Deque<Boolean> compared = new ArrayDeque<>(List.of(false));
        boolean behind = false;
        for (int i = 0; i < law.length(); i++) {
            char c = law.charAt(i);
            if (c == ' ') {
                continue;
            }
            if (!behind && Character.isDigit(c)) {
                int first = i;
                while (i + 1 < law.length() && Character.isDigit(law.charAt(i + 1))) {
                    i++;
                }
                if (i - first >= 6) {
                    return 10 * first + 2;
                }
                behind = true;
            } else if (!behind && "avhtuk".indexOf(c) >= 0) {
                behind = true;
            } else if (!behind && c == '(') {
                if (compared.size() == 9) {
                    return 10 * i + 3;
                }
                compared.push(false);
            } else if (behind && c == ')' && compared.size() > 1) {
                compared.pop();
            } else if (behind && "<>=".indexOf(c) >= 0 && !compared.peek()) {
                compared.pop();
                compared.push(true);
                behind = false;
            } else if (behind && "&|".indexOf(c) >= 0) {
                compared.pop();
                compared.push(false);
                behind = false;
            } else if (behind && "+-*/".indexOf(c) >= 0) {
                behind = false;
            } else if (behind || "!-".indexOf(c) < 0) {
                return 10 * i + 1;
            }
        }
        return behind && compared.size() == 1 ? -1 : 10 * law.length() + 1;
    }

    private static int strengthOf(char sign) {
        switch (sign) {
            case '|':
                return 1;
            case '&':
                return 2;
            case '<':
            case '>':
            case '=':
                return 3;
            case '+':
            case '-':
                return 4;
            case '*':
            case '/':
                return 5;
            case '!':
            case '~':
                return 6;
            default:
                return 0;
        }
    }

    /** Of a sound text alone: two stacks, signs and values. */
    private static long valueOf(String law, Yard y) {
        Deque<Character> signs = new ArrayDeque<>();
        Deque<Long> values = new ArrayDeque<>();
        boolean behind = false;
        for (int i = 0; i < law.length(); i++) {
            char c = law.charAt(i);
            if (c == ' ') {
                continue;
            }
            if (Character.isDigit(c)) {
                long number = 0;
                for (; i < law.length() && Character.isDigit(law.charAt(i)); i++) {
                    number = number * 10 + Character.digit(law.charAt(i), 10);
                }
                i--;
                values.push(number);
                behind = true;
            } else if (Character.isLetter(c)) {
                values.push(c == 'a' ? y.a : c == 'v' ? y.v : c == 'h' ? y.h : c == 't' ? y.t : c == 'u' ? y.u : y.k);
                behind = true;
            } else if (c == '(') {
                signs.push(c);
            } else if (c == ')') {
                while (signs.peek() != '(') {
                    work(signs.pop(), values);
                }
                signs.pop();
                behind = true;
            } else if (!behind) {
                signs.push(c == '-' ? '~' : c);
            } else {
                while (!signs.isEmpty() && strengthOf(signs.peek()) >= strengthOf(c)) {
                    work(signs.pop(), values);
                }
                signs.push(c);
                behind = false;
            }
        }
        while (!signs.isEmpty()) {
            work(signs.pop(), values);
        }
        return values.pop();
    }

    private static void work(char sign, Deque<Long> values) {
        long y = values.pop();
        if (sign == '!' || sign == '~') {
            values.push(sign == '~' ? -y : y == 0 ? 1L : 0L);
            return;
        }
        long x = values.pop();
        switch (sign) {
            case '|':
                values.push(x == 0 && y == 0 ? 0L : 1L);
                break;
            case '&':
                values.push(x == 0 || y == 0 ? 0L : 1L);
                break;
            case '<':
                values.push(x < y ? 1L : 0L);
                break;
            case '>':
                values.push(x > y ? 1L : 0L);
                break;
            case '=':
                values.push(x == y ? 1L : 0L);
                break;
            case '+':
                values.push(x + y);
                break;
            case '-':
                values.push(x - y);
                break;
            case '*':
                values.push(x * y);
                break;
            default:
                values.push(y == 0 ? 0 : x / y);
                break;
        }
    }
}
