/**
 * A child on a swing, tick by tick in whole numbers. The document's promises say what each call
 * answers; a call that is refused changes nothing but the counts that status tells.
 */
public final class SwingYard {
    public static final int NONE = -1, BAD = -2, NO = -3, FULL = -4;

    private static final int ROPE = 0, PULL = 1, LOSS = 2, STEP = 3;
    private static final int QUICK = 4, LEAN = 5, GIVE = 6, BESIDE = 7;
    private static final int NUMBERS = 8;
    private static final int[] LEAST = {50, 1, 0, 0, 1, -90, 0, 50};
    private static final int[] MOST = {400, 9, 50, 4, 9, 90, 50, 400};
    private static final int[] AT_FIRST = {200, 2, 1, 2, 3, 0, 0, 200};

    private static final int BAR = 1000000;
    private static final int HIGHEST_POSTURE = 9;
    private static final int LONGEST_LAW = 60;
    private static final int MOST_PUSHES = 8;
    private static final int LAST_PUSH_TICK = 9999;
    private static final int STRONGEST_PUSH = 30000;
    private static final int TURNS_KEPT = 40;
    private static final int TOLD = 12;
    private static final int IMAGES = 2;

    private static final int LONGEST_RUN = 500;
    private static final int LONGEST_RULE_RUN = 300;
    private static final int LAST_OFF = 120;
    private static final int MOST_WHEN = 40;
    private static final int MOST_EACH = 12;
    private static final int ROW = 5;
    private static final int CHOICES = 3;
    private static final int[] ROW_POSTURES = {0, 4, 9};
    private static final int ROWS = 243;
    // How many rows, one behind the other, have the same posture at a stage.
    private static final int[] ROWS_ALIKE = {81, 27, 9, 3, 1};
    private static final int[] RULE_PLACES = {100000, 300000, 600000};
    private static final int MOST_RULE = 20;
    private static final int RULE_WIDTH = 50000;
    private static final int BEGUN = 1000;

    private static final int BAD_NUMBER = -100;
    private static final int BAD_AMOUNT = -10000000;
    private static final int BAD_FAR = -1000000000;

    private final Swing now = new Swing();
    private final Swing[] images = new Swing[IMAGES];
    private final boolean[] kept = new boolean[IMAGES];
    private final Law law = new Law();
    private final LawReader reader = new LawReader(now.text, law);
    // Runs are tried on children of their own, so that what is asked leaves all as it is.
    private final Child trial = new Child();
    private final Child[] stages = new Child[ROW + 1];
    // The PEAK of the row ahead of each stage (of the first: 0), and of all of it.
    private final int[] peaks = new int[ROW + 1];
    private final int[] row = new int[ROW];
    private final int[] bestRow = new int[ROW];
    private int bestPeak = NONE;
    private int bads = 0;
    private int noes = 0;
    private int fulls = 0;

    public SwingYard() {
        for (int i = 0; i < IMAGES; i++) {
            images[i] = new Swing();
        }
        for (int i = 0; i <= ROW; i++) {
            stages[i] = new Child();
        }
    }

    // ---- swings, laws, pushes

    public int put(int what, int v) {
        if (!within(what, 0, NUMBERS - 1) || !within(v, LEAST[what], MOST[what])) {
            return refusedAsBad(BAD_NUMBER);
        }
        int was = now.numbers[what];
        now.numbers[what] = v;
        return was;
    }

    public int write(int character) {
        if (!within(character, 0, 127)) {
            return refusedAsBad(BAD);
        }
        if (now.text.length >= LONGEST_LAW) {
            return refusedAsFull();
        }
        now.text.add(character);
        reader.readAll();
        return now.text.length;
    }

    public int erase() {
        int was = now.text.length;
        now.text.length = 0;
        reader.readAll();
        return was;
    }

    public int fault() {
        return law.fault;
    }

    public int push(int tick, int force) {
        if (!within(tick, 0, LAST_PUSH_TICK) || !isForce(force)) {
            return refusedAsBad(BAD);
        }
        if (now.pushes.count >= MOST_PUSHES) {
            return refusedAsFull();
        }
        now.pushes.add(tick, force);
        return now.pushes.count;
    }

    public int rest() {
        int were = now.pushes.count;
        now.pushes.count = 0;
        return were;
    }

    public int begin(int place) {
        if (!within(place, -BAR, BAR)) {
            return refusedAsBad(BAD);
        }
        now.child.beginAnew(place);
        now.turns.clear();
        return 1;
    }

    public int tick(int n) {
        if (!isRun(n)) {
            return refusedAsBad(BAD);
        }
        for (int i = 0; i < n; i++) {
            if (stepByLaw(now.child)) {
                now.turns.add(now.child.height);
            }
        }
        return now.child.height;
    }

    public int told(int what) {
        return within(what, 0, TOLD - 1) ? valueTold(what) : refusedAsBad(BAD_AMOUNT);
    }

    public int turn(int i) {
        return within(i, 0, TURNS_KEPT - 1) ? now.turns.beforeLast(i) : refusedAsBad(BAD);
    }

    // ---- runs

    public int peak(int n) {
        return isRun(n) ? peakWith(0, 0, n) : refusedAsBad(BAD);
    }

    public int gain(int n) {
        if (!isRun(n)) {
            return refusedAsBad(BAD_AMOUNT);
        }
        trial.become(now.child);
        int turns = 0;
        int first = 0;
        for (int i = 0; i < n; i++) {
            if (stepByLaw(trial)) {
                first = turns == 0 ? trial.height : first;
                turns++;
            }
        }
        return turns < 2 ? 0 : trial.height - first;
    }

    public int worth(int i, int force, int n) {
        if (!within(i, 0, LONGEST_RUN - 1) || !isForce(force) || !isRun(n)) {
            return refusedAsBad(BAD_AMOUNT);
        }
        return peakWith(i, force, n) - peakWith(0, 0, n);
    }

    public int begins() {
        trial.become(now.child);
        trial.startFrom(0);
        for (int i = 1; i <= LONGEST_RUN; i++) {
            stepByLaw(trial);
            if (trial.distance() >= BEGUN) {
                return i;
            }
        }
        return NONE;
    }

    // ---- what is best

    public int best(int m, int what) {
        if (!within(m, 1, MOST_EACH) || !within(what, NONE, ROW - 1)) {
            return refusedAsBad(BAD);
        }
        tryAllRows(m);
        return what == NONE ? bestPeak : bestRow[what];
    }

    public int when(int force, int n, int j, int what) {
        if (!isForce(force) || !isRun(n) || !within(j, 1, MOST_WHEN) || !within(what, 0, 1)) {
            return refusedAsBad(BAD);
        }
        int without = peakWith(0, 0, n);
        int bestAt = 0;
        int bestWorth = 0;
        int brakes = 0;
        for (int i = 0; i < j; i++) {
            int worthHere = peakWith(i, force, n) - without;
            if (i == 0 || worthHere > bestWorth) {
                bestAt = i;
                bestWorth = worthHere;
            }
            brakes += worthHere < 0 ? 1 : 0;
        }
        return what == 0 ? bestAt : brakes;
    }

    public int far(int i) {
        if (!within(i, 0, LAST_OFF)) {
            return refusedAsBad(BAD_FAR);
        }
        trial.become(now.child);
        for (int passed = 0; passed < i; passed++) {
            stepByLaw(trial);
        }
        return trial.landing(now.numbers);
    }

    public int farthest(int n) {
        if (!within(n, 0, LAST_OFF)) {
            return refusedAsBad(BAD);
        }
        trial.become(now.child);
        int bestAt = 0;
        int bestFar = trial.landing(now.numbers);
        for (int i = 1; i <= n; i++) {
            stepByLaw(trial);
            int farHere = trial.landing(now.numbers);
            if (farHere > bestFar) {
                bestAt = i;
                bestFar = farHere;
            }
        }
        return bestAt;
    }

    public int swaps(int n, int what) {
        if (!isRun(n) || !within(what, 0, 1)) {
            return refusedAsBad(BAD);
        }
        trial.become(now.child);
        int greatest = NONE;
        int first = 0;
        for (int i = 1; i <= n; i++) {
            stepByLaw(trial);
            int otherDistance = trial.otherDistance();
            if (otherDistance > greatest) {
                greatest = otherDistance;
                first = i;
            }
        }
        return what == 0 ? greatest : first;
    }

    public int simplest(int n) {
        if (!within(n, 1, LONGEST_RULE_RUN)) {
            return refusedAsBad(BAD);
        }
        for (int s = 0; s <= MOST_RULE; s++) {
            if (pumps(s, n)) {
                return s;
            }
        }
        return NONE;
    }

    public int image(int i) {
        if (!within(i, 0, IMAGES - 1)) {
            return refusedAsBad(BAD);
        }
        images[i].become(now);
        kept[i] = true;
        return 1;
    }

    public int from(int i) {
        if (!within(i, 0, IMAGES - 1)) {
            return refusedAsBad(BAD);
        }
        if (!kept[i]) {
            return refusedAsNo();
        }
        now.become(images[i]);
        reader.readAll();
        return 1;
    }

    public int status(int what) {
        switch (what) {
            case 0:
                return bads;
            case 1:
                return noes;
            case 2:
                return fulls;
            case 3:
                return now.pushes.count;
            default:
                return refusedAsBad(NONE);
        }
    }

    public long digest() {
        long h = 487;
        for (int i = 0; i < NUMBERS; i++) {
            h = 31 * h + now.numbers[i];
        }
        h = now.text.digestOnto(h);
        h = now.pushes.digestOnto(h);
        for (int i = 0; i < TOLD; i++) {
            h = 31 * h + valueTold(i);
        }
        for (int i = 0; i < TURNS_KEPT; i++) {
            h = 31 * h + now.turns.beforeLast(i);
        }
        return h;
    }

    // ---- refusals

    private int refusedAsBad(int answer) {
        bads++;
        return answer;
    }

    private int refusedAsNo() {
        noes++;
        return NO;
    }

    private int refusedAsFull() {
        fulls++;
        return FULL;
    }

    private static boolean within(int x, int least, int most) {
        return x >= least && x <= most;
    }

    private static boolean isForce(int force) {
        return within(force, -STRONGEST_PUSH, STRONGEST_PUSH);
    }

    private static boolean isRun(int n) {
        return within(n, 1, LONGEST_RUN);
    }

    // ---- helpers of the calls

    private int valueTold(int what) {
        return what == 6 ? now.turns.count : now.child.valueTold(what);
    }

    private boolean stepByLaw(Child child) {
        return stepWishing(child, law.wishOf(child), 0);
    }

    private boolean stepWishing(Child child, int wish, int pushMore) {
        return child.step(now.numbers, wish, now.pushes.forceAt(child.ticks) + pushMore);
    }

    /** The PEAK of a run with a push more, some ticks from now (a force of 0: without). */
    private int peakWith(int ticksFromNow, int force, int n) {
        trial.become(now.child);
        int greatest = 0;
        for (int i = 0; i < n; i++) {
            stepWishing(trial, law.wishOf(trial), i == ticksFromNow ? force : 0);
            greatest = Math.max(greatest, trial.distance());
        }
        return greatest;
    }

    /** Rows that begin alike share the ticks of what they have in common, so each stage is kept. */
    private void tryAllRows(int m) {
        bestPeak = NONE;
        stages[0].become(now.child);
        for (int i = 0; i < ROWS; i++) {
            for (int stage = 0; stage < ROW; stage++) {
                int alike = ROWS_ALIKE[stage];
                if (alike > 0 && i % alike == 0) {
                    row[stage] = ROW_POSTURES[i / alike % CHOICES];
                    goThroughStage(stage, m);
                }
            }
            keepRowIfHigher();
        }
    }

    private void goThroughStage(int stage, int m) {
        Child child = stages[stage + 1];
        child.become(stages[stage]);
        int greatest = peaks[stage];
        for (int passed = 0; passed < m; passed++) {
            stepWishing(child, row[stage], 0);
            greatest = Math.max(greatest, child.distance());
        }
        peaks[stage + 1] = greatest;
    }

    private void keepRowIfHigher() {
        if (peaks[ROW] > bestPeak) {
            bestPeak = peaks[ROW];
            System.arraycopy(row, 0, bestRow, 0, ROW);
        }
    }

    private boolean pumps(int s, int n) {
        for (int i = 0; i < RULE_PLACES.length; i++) {
            if (lastTurnByRule(s, RULE_PLACES[i], n) <= RULE_PLACES[i]) {
                return false;
            }
        }
        return true;
    }

    /** NONE if it does not turn, which is lower than any place. */
    private int lastTurnByRule(int s, int place, int n) {
        trial.become(now.child);
        trial.startFrom(place);
        int last = NONE;
        for (int i = 0; i < n; i++) {
            int wish = trial.distance() < RULE_WIDTH * s ? HIGHEST_POSTURE : 0;
            if (stepWishing(trial, wish, 0)) {
                last = trial.height;
            }
        }
        return last;
    }

    /** All that an image keeps. */
    private static final class Swing {
        final int[] numbers = AT_FIRST.clone();
        final Text text = new Text();
        final Pushes pushes = new Pushes();
        final Child child = new Child();
        final Turns turns = new Turns();

        void become(Swing other) {
            System.arraycopy(other.numbers, 0, numbers, 0, NUMBERS);
            text.become(other.text);
            pushes.become(other.pushes);
            child.become(other.child);
            turns.become(other.turns);
        }
    }

    /** The characters of the LAW as they were written. */
    private static final class Text {
        static final int END = -1;

        final int[] signs = new int[LONGEST_LAW];
        int length = 0;

        void add(int sign) {
            if (length < LONGEST_LAW) {
                signs[length] = sign;
                length++;
            }
        }

        int signAt(int place) {
            return place >= 0 && place < length ? signs[place] : END;
        }

        void become(Text other) {
            System.arraycopy(other.signs, 0, signs, 0, LONGEST_LAW);
            length = other.length;
        }

        long digestOnto(long before) {
            long h = 31 * before + length;
            for (int i = 0; i < length; i++) {
                h = 31 * h + signAt(i);
            }
            return h;
        }
    }

    private static final class Pushes {
        final int[] ticks = new int[MOST_PUSHES];
        final int[] forces = new int[MOST_PUSHES];
        int count = 0;

        void add(int tick, int force) {
            if (count < MOST_PUSHES) {
                ticks[count] = tick;
                forces[count] = force;
                count++;
            }
        }

        int forceAt(int tick) {
            int sum = 0;
            for (int i = 0; i < count && i < MOST_PUSHES; i++) {
                sum += ticks[i] == tick ? forces[i] : 0;
            }
            return sum;
        }

        void become(Pushes other) {
            System.arraycopy(other.ticks, 0, ticks, 0, MOST_PUSHES);
            System.arraycopy(other.forces, 0, forces, 0, MOST_PUSHES);
            count = other.count;
        }

        long digestOnto(long before) {
            long h = before;
            for (int i = 0; i < count && i < MOST_PUSHES; i++) {
                h = 31 * h + ticks[i];
                h = 31 * h + forces[i];
            }
            return h;
        }
    }

    /** How many turns there were, and the heights of the last of them, in a ring. */
    private static final class Turns {
        final int[] heights = new int[TURNS_KEPT];
        int count = 0;

        void add(int height) {
            heights[Math.floorMod(count, TURNS_KEPT)] = height;
            count++;
        }

        int beforeLast(int i) {
            if (i < 0 || i >= TURNS_KEPT || i >= count) {
                return NONE;
            }
            return heights[Math.floorMod(count - 1 - i, TURNS_KEPT)];
        }

        void clear() {
            count = 0;
        }

        void become(Turns other) {
            System.arraycopy(other.heights, 0, heights, 0, TURNS_KEPT);
            count = other.count;
        }
    }

    /** The child and the other one: where they are and how fast. */
    private static final class Child {
        static final int MOST_STRENGTH = 1000000000;
        static final int LONGEST_FALL = 1000;

        // Longs, as within a tick a speed times two lengths goes beyond an int.
        long place = 0;
        long speed = 0;
        int posture = 0;
        int since = 0;
        int height = 0;
        int ticks = 0;
        // The sign of the last speed that was not 0, since it began or since a DROP; 0: none yet.
        int way = 0;
        int strength = 0;
        int drops = 0;
        int greatestDrop = 0;
        long otherPlace = 0;
        long otherSpeed = 0;

        void become(Child other) {
            place = other.place;
            speed = other.speed;
            posture = other.posture;
            since = other.since;
            height = other.height;
            ticks = other.ticks;
            way = other.way;
            strength = other.strength;
            drops = other.drops;
            greatestDrop = other.greatestDrop;
            otherPlace = other.otherPlace;
            otherSpeed = other.otherSpeed;
        }

        /** As BEGINS asks for it: TICKS are as they were, and HEIGHT is 0 whatever the place. */
        void startFrom(int newPlace) {
            place = newPlace;
            speed = 0;
            posture = 0;
            since = 0;
            height = 0;
            way = 0;
            otherPlace = 0;
            otherSpeed = 0;
        }

        void beginAnew(int newPlace) {
            startFrom(newPlace);
            height = distance();
            ticks = 0;
            strength = 0;
            drops = 0;
            greatestDrop = 0;
        }

        int distance() {
            return (int) Math.abs(place);
        }

        int otherDistance() {
            return (int) Math.abs(otherPlace);
        }

        /** One TICK; true if it has turned in it. */
        boolean step(int[] numbers, int wish, int pushed) {
            long placeBefore = place;
            bendToward(wish, numbers);
            speed += pushed;
            drawBoth(numbers);
            place += speed;
            moveOther();
            boolean turned = wentSlack() || turnedBack();
            if (turned) {
                height = distance();
            }
            since = passedMiddle(placeBefore) ? 0 : since + 1;
            ticks++;
            return turned;
        }

        private void bendToward(int wish, int[] numbers) {
            int steps = Math.max(-numbers[QUICK], Math.min(numbers[QUICK], wish - posture));
            long before = length(numbers);
            useStrength(Math.abs(steps));
            posture += steps;
            long after = length(numbers);
            speed = divided(speed * before * before, after * after);
            speed += numbers[LEAN] * 100L * steps;
        }

        /** Called ahead of any change of the speed, as that is the one that counts. */
        private void useStrength(int steps) {
            long used = steps * (10 + Math.abs(speed) / 10000);
            strength = (int) Math.min(MOST_STRENGTH, strength + used);
        }

        private void drawBoth(int[] numbers) {
            long given = numbers[GIVE] * (otherPlace - place) / 1000;
            speed += given - divided(numbers[PULL] * place, length(numbers));
            otherSpeed -= given + divided(numbers[PULL] * otherPlace, numbers[BESIDE]);
            speed -= speed * numbers[LOSS] / 1000;
            otherSpeed -= otherSpeed * numbers[LOSS] / 1000;
        }

        private void moveOther() {
            otherPlace += otherSpeed;
            if (otherPlace > BAR || otherPlace < -BAR) {
                otherPlace = otherPlace > 0 ? BAR : -BAR;
                otherSpeed = 0;
            }
        }

        private boolean wentSlack() {
            long above = Math.abs(place) - BAR;
            if (above <= 0) {
                return false;
            }
            drops++;
            greatestDrop = (int) Math.max(greatestDrop, above);
            place = place > 0 ? BAR : -BAR;
            speed = 0;
            way = 0;
            return true;
        }

        private boolean turnedBack() {
            if (speed == 0) {
                return false;
            }
            int wayBefore = way;
            way = speed > 0 ? 1 : -1;
            return wayBefore == -way;
        }

        private boolean passedMiddle(long placeBefore) {
            return place == 0 || (place > 0 && placeBefore < 0) || (place < 0 && placeBefore > 0);
        }

        /** The document's limits keep it at 14 or more. */
        long length(int[] numbers) {
            return numbers[ROPE] - (long) numbers[STEP] * posture;
        }

        /** FAR, if it lets go now. */
        int landing(int[] numbers) {
            long length = length(numbers);
            long thousandths = place / 1000;
            long up = 50 + length * thousandths * thousandths / 2000000;
            return (int) ((place + speed * fall(up, numbers[PULL])) * length / 1000);
        }

        private static long fall(long up, long pull) {
            long f = 0;
            while (f < LONGEST_FALL && pull * f * f < 2 * up) {
                f++;
            }
            return f;
        }

        int valueTold(int what) {
            switch (what) {
                case 0:
                    return (int) place;
                case 1:
                    return (int) speed;
                case 2:
                    return posture;
                case 3:
                    return since;
                case 4:
                    return height;
                case 5:
                    return ticks;
                case 7:
                    return strength;
                case 8:
                    return drops;
                case 9:
                    return greatestDrop;
                case 10:
                    return (int) otherPlace;
                case 11:
                    return (int) otherSpeed;
                default:
                    return 0;
            }
        }

        private static long divided(long x, long by) {
            return by == 0 ? 0 : x / by;
        }
    }

    /**
     * The LAW in the order in which it is worked: what two parts give stands behind both. A number
     * stands there as itself, all else as its sign below 0.
     */
    private static final class Law {
        static final int MINUS_OF_ONE = '~';

        // Each part comes from a sign of its own in the text, so there are never more of them.
        final int[] parts = new int[LONGEST_LAW];
        int count = 0;
        int fault = 1;
        final long[] values = new long[LONGEST_LAW];
        int top = 0;

        void clear() {
            count = 0;
            fault = NONE;
        }

        void addNumber(int number) {
            add(number);
        }

        void addSign(int sign) {
            add(-sign);
        }

        private void add(int part) {
            if (count < LONGEST_LAW) {
                parts[count] = part;
                count++;
            }
        }

        /** The POSTURE that is wished; with a FAULT it stays. */
        int wishOf(Child child) {
            if (fault != NONE) {
                return child.posture;
            }
            return (int) Math.max(0, Math.min(HIGHEST_POSTURE, valueFor(child)));
        }

        private long valueFor(Child child) {
            top = 0;
            for (int i = 0; i < count; i++) {
                work(parts[i], child);
            }
            return take();
        }

        private void work(int part, Child child) {
            int sign = -part;
            if (sign <= 0) {
                lay(part);
            } else if (sign >= 'a' && sign <= 'z') {
                lay(letter(sign, child));
            } else if (sign == '!') {
                lay(truth(take() == 0));
            } else if (sign == MINUS_OF_ONE) {
                lay(-take());
            } else {
                long right = take();
                long left = take();
                lay(joined(left, sign, right));
            }
        }

        private void lay(long value) {
            if (top < LONGEST_LAW) {
                values[top] = value;
                top++;
            }
        }

        private long take() {
            if (top <= 0) {
                return 0;
            }
            top--;
            return values[top];
        }

        private static long letter(int sign, Child child) {
            switch (sign) {
                case 'a':
                    return child.place;
                case 'v':
                    return child.speed;
                case 'h':
                    return child.posture;
                case 't':
                    return child.since;
                case 'u':
                    return child.height;
                case 'k':
                    return child.ticks;
                default:
                    return 0;
            }
        }

        private static long joined(long left, int sign, long right) {
            switch (sign) {
                case '|':
                    return truth(left != 0 || right != 0);
                case '&':
                    return truth(left != 0 && right != 0);
                case '<':
                    return truth(left < right);
                case '>':
                    return truth(left > right);
                case '=':
                    return truth(left == right);
                case '+':
                    return left + right;
                case '-':
                    return left - right;
                case '*':
                    return left * right;
                case '/':
                    return right == 0 ? 0 : left / right;
                default:
                    return 0;
            }
        }

        private static long truth(boolean holds) {
            return holds ? 1 : 0;
        }
    }

    /** Reads the text of a LAW, from the first sign to the last or to its FAULT. */
    private static final class LawReader {
        static final int MOST_OPEN = 8;
        static final int MOST_DIGITS = 6;
        static final int WRONG_SIGN = 1, SEVENTH_DIGIT = 2, NINTH_OPEN = 3;

        // Signs before a UNIT wait here until it is read: a long row of them needs no recursion.
        final int[] waiting = new int[LONGEST_LAW];
        int waitingCount = 0;
        final Text text;
        final Law law;
        int at = 0;

        LawReader(Text text, Law law) {
            this.text = text;
            this.law = law;
        }

        void readAll() {
            at = 0;
            waitingCount = 0;
            law.clear();
            readValue(0);
            if (nextSign() != Text.END) {
                refuse(at, WRONG_SIGN);
            }
        }

        private void readValue(int open) {
            readBoth(open);
            for (int i = 0; i < LONGEST_LAW && nextSign() == '|'; i++) {
                at++;
                readBoth(open);
                law.addSign('|');
            }
        }

        private void readBoth(int open) {
            readHeld(open);
            for (int i = 0; i < LONGEST_LAW && nextSign() == '&'; i++) {
                at++;
                readHeld(open);
                law.addSign('&');
            }
        }

        private void readHeld(int open) {
            readSum(open);
            int sign = nextSign();
            if (sign == '<' || sign == '>' || sign == '=') {
                at++;
                readSum(open);
                law.addSign(sign);
            }
        }

        private void readSum(int open) {
            readTerm(open);
            int sign = nextSign();
            for (int i = 0; i < LONGEST_LAW && (sign == '+' || sign == '-'); i++) {
                at++;
                readTerm(open);
                law.addSign(sign);
                sign = nextSign();
            }
        }

        private void readTerm(int open) {
            readUnit(open);
            int sign = nextSign();
            for (int i = 0; i < LONGEST_LAW && (sign == '*' || sign == '/'); i++) {
                at++;
                readUnit(open);
                law.addSign(sign);
                sign = nextSign();
            }
        }

        private void readUnit(int open) {
            int waitingBefore = waitingCount;
            readSignsBefore();
            readCore(open);
            while (waitingCount > waitingBefore && waitingCount > 0) {
                waitingCount--;
                law.addSign(waiting[waitingCount]);
            }
        }

        private void readSignsBefore() {
            int sign = nextSign();
            while (waitingCount < LONGEST_LAW && (sign == '!' || sign == '-')) {
                waiting[waitingCount] = sign == '-' ? Law.MINUS_OF_ONE : sign;
                waitingCount++;
                at++;
                sign = nextSign();
            }
        }

        private void readCore(int open) {
            int sign = nextSign();
            if (isDigit(sign)) {
                readNumber();
            } else if (isLetter(sign)) {
                at++;
                law.addSign(sign);
            } else if (sign == '(') {
                readInner(open);
            } else {
                refuse(at, WRONG_SIGN);
            }
        }

        private void readNumber() {
            int first = at;
            int number = 0;
            for (int i = 0; i < MOST_DIGITS && isDigit(text.signAt(at)); i++) {
                number = 10 * number + text.signAt(at) - '0';
                at++;
            }
            if (isDigit(text.signAt(at))) {
                refuse(first, SEVENTH_DIGIT);
            }
            law.addNumber(number);
        }

        private void readInner(int open) {
            if (open >= MOST_OPEN) {
                refuse(at, NINTH_OPEN);
                return;
            }
            at++;
            readValue(open + 1);
            if (nextSign() == ')') {
                at++;
            } else {
                refuse(at, WRONG_SIGN);
            }
        }

        /** The next sign that is no blank. Behind a FAULT none is left, so that all reading ends. */
        private int nextSign() {
            if (law.fault != NONE) {
                return Text.END;
            }
            while (at < text.length && text.signAt(at) == ' ') {
                at++;
            }
            return text.signAt(at);
        }

        /** Only the first FAULT counts. */
        private void refuse(int place, int kind) {
            if (law.fault == NONE) {
                law.fault = 10 * place + kind;
            }
        }

        private static boolean isDigit(int sign) {
            return sign >= '0' && sign <= '9';
        }

        private static boolean isLetter(int sign) {
            return sign == 'a' || sign == 'v' || sign == 'h' || sign == 't' || sign == 'u' || sign == 'k';
        }
    }
}
