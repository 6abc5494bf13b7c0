/** Promises 2 and 8 to 11: the numbers, begin, tick, told, turn; ticks worked out by hand. */
public final class SwingTest {
    private static final Check CHECK = new Check();

    public static void main(String[] args) {
        numbers();
        begin();
        plainTicks();
        cutsTowardZero();
        bending();
        leaning();
        quickAndStrength();
        turning();
        turningPastRest();
        turningByOne();
        slackRopes();
        noTurnBehindADrop();
        besideIt();
        otherAtTheBar();
        otherJustAtTheBar(831907, 63, 82, 50, 1000000);
        otherJustAtTheBar(824642, 104, 88, 32, -1000000);
        keptTurns();
        wrongInputs();
        CHECK.end();
    }

    private static void numbers() {
        int[] least = {50, 1, 0, 0, 1, -90, 0, 50};
        int[] most = {400, 9, 50, 4, 9, 90, 50, 400};
        int[] first = {200, 2, 1, 2, 3, 0, 0, 200};
        SwingYard x = new SwingYard();
        for (int i = 0; i < 8; i++) {
            int what = i;
            CHECK.due("put least " + i, x.put(i, least[i]), first[i]);
            CHECK.due("put most " + i, x.put(i, most[i]), least[i]);
            CHECK.bad(x, "put below " + i, y -> y.put(what, least[what] - 1), -100);
            CHECK.bad(x, "put above " + i, y -> y.put(what, most[what] + 1), -100);
            CHECK.due("put again " + i, x.put(i, first[i]), most[i]);
        }
        CHECK.bad(x, "put(-1, 1)", y -> y.put(-1, 1), -100);
        CHECK.bad(x, "put(8, 50)", y -> y.put(8, 50), -100);
        CHECK.bad(x, "put(MAX, 50)", y -> y.put(Integer.MAX_VALUE, 50), -100);
        CHECK.bad(x, "put(MIN, 50)", y -> y.put(Integer.MIN_VALUE, 50), -100);
    }

    private static void begin() {
        SwingYard x = Check.swing(50, 9, 0, 4, 9, 90, 50, 50);
        Check.law(x, "9*(t<2)");
        x.push(1, 30000);
        x.begin(900000);
        x.tick(100);
        CHECK.due("turns were there", x.told(6) > 0 ? 1 : 0, 1);
        CHECK.due("strength was there", x.told(7) > 0 ? 1 : 0, 1);
        CHECK.due("drops were there", x.told(8) > 0 ? 1 : 0, 1);
        CHECK.due("begin(-300)", x.begin(-300), 1);
        CHECK.told(x, "begun", -300, 0, 0, 0, 300, 0, 0, 0, 0, 0, 0, 0);
        CHECK.due("turn(0), begun", x.turn(0), -1);
        CHECK.due("PUSHES stay", x.status(3), 1);
        CHECK.due("the LAW stays", x.erase(), 7);
        CHECK.due("numbers stay", x.put(0, 50), 50);
        CHECK.due("begin(1000000)", x.begin(1000000), 1);
        CHECK.told(x, "begun at the bar", 1000000, 0, 0, 0, 1000000);
        CHECK.due("begin(-1000000)", x.begin(-1000000), 1);
        CHECK.told(x, "begun at the other side", -1000000, 0, 0, 0, 1000000);
    }

    private static void plainTicks() {
        SwingYard x = Check.swing(200, 2, 0);
        x.begin(100000);
        CHECK.due("tick(1)", x.tick(1), 100000);
        CHECK.told(x, "without LOSS", 99000, -1000, 0, 1, 100000, 1, 0, 0, 0, 0, 0, 0);
        x.tick(1);
        CHECK.told(x, "two ticks", 97010, -1990, 0, 2, 100000, 2);
        x = Check.swing(200, 2, 50);
        x.begin(100000);
        x.tick(1);
        CHECK.told(x, "LOSS 50", 99050, -950);
        x = Check.swing(400, 9, 0);
        x.begin(-100000);
        x.tick(1);
        CHECK.told(x, "ROPE 400, PULL 9", -97750, 2250, 0, 1, 100000);
    }

    private static void cutsTowardZero() {
        SwingYard x = Check.swing(200, 2, 50);
        x.begin(299);
        x.tick(1);
        CHECK.told(x, "598 by 200", 297, -2);
        x.begin(-299);
        x.tick(1);
        CHECK.told(x, "-598 by 200", -297, 2);
        x = Check.swing(200, 2, 50);
        x.push(0, -39);
        x.tick(1);
        CHECK.told(x, "-1950 by 1000", -38, -38);
        x = Check.swing(200, 2, 0, 2, 3, 0, 1);
        x.begin(1999);
        x.tick(1);
        CHECK.told(x, "GIVE, -1999 by 1000", 1979, -20, 0, 1, 1999, 1, 0, 0, 0, 0, 1, 1);
    }

    private static void bending() {
        SwingYard x = Check.swing(200, 2, 0);
        x.push(0, 10000);
        Check.law(x, "9");
        x.tick(1);
        CHECK.told(x, "stretching 1", 10000, 10000, 3, 1, 0, 1, 0, 30);
        x.tick(1);
        // 10000 * 194 * 194 / (188 * 188) = 10648; less 20000 / 188 = 106; 3 steps of 10 + 1
        CHECK.told(x, "stretching 2", 20542, 10542, 6, 2, 0, 2, 0, 63);
        Check.law(x, "0");
        x.tick(1);
        // 10542 * 188 * 188 / (194 * 194) = 9900; less 41084 / 194 = 211
        CHECK.told(x, "bending", 30231, 9689, 3, 3, 0, 3, 0, 96);
    }

    private static void leaning() {
        SwingYard x = Check.swing(200, 2, 0, 2, 3, 60);
        Check.law(x, "9");
        x.tick(1);
        CHECK.told(x, "LEAN up", 18000, 18000, 3);
        x = Check.swing(200, 2, 0, 0, 9, -90);
        Check.law(x, "4*(k=0)");
        x.tick(1);
        CHECK.told(x, "LEAN -90 up", -36000, -36000, 4);
        x.tick(1);
        // -36000 + 36000, less 2 * -36000 / 200
        CHECK.told(x, "LEAN -90 down", -35640, 360, 0);
    }

    private static void quickAndStrength() {
        SwingYard x = Check.swing(200, 2, 0, 0, 1, 0);
        Check.law(x, "9");
        x.tick(5);
        CHECK.due("POSTURE, QUICK 1", x.told(2), 5);
        CHECK.due("STRENGTH, QUICK 1", x.told(7), 50);
        x.put(4, 9);
        Check.law(x, "0-5");
        x.tick(1);
        CHECK.due("POSTURE, QUICK 9", x.told(2), 0);
        CHECK.due("STRENGTH, QUICK 9", x.told(7), 100);
        Check.law(x, "77");
        x.tick(1);
        CHECK.due("POSTURE of 77", x.told(2), 9);
        x.tick(1);
        CHECK.due("STRENGTH stays when h does", x.told(7), 190);
        // the speed ahead of the tick counts, without sign: -29999 is 2
        x = Check.swing(200, 2, 0, 0, 9, 0);
        x.push(0, -29999);
        x.push(1, 29999);
        Check.law(x, "7*(k=1)");
        x.tick(2);
        CHECK.due("STRENGTH by the speed before", x.told(7), 84);
    }

    private static void turning() {
        int[] places = {41, 25, 5, -15, -33, -46, -51, -47};
        int[] speeds = {-9, -16, -20, -20, -18, -13, -5, 4};
        int[] since = {1, 2, 3, 0, 1, 2, 3, 4};
        SwingYard x = Check.swing(50, 9, 0);
        x.begin(50);
        for (int i = 0; i < places.length; i++) {
            boolean last = i == places.length - 1;
            CHECK.due("tick " + i, x.tick(1), last ? 47 : 50);
            CHECK.told(x, "tick " + i, places[i], speeds[i], 0, since[i], last ? 47 : 50, i + 1, last ? 1 : 0);
            CHECK.due("turn(0) at " + i, x.turn(0), last ? 47 : -1);
        }
        CHECK.due("turn(1)", x.turn(1), -1);
    }

    private static void turningPastRest() {
        SwingYard x = Check.swing(400, 1, 0);
        x.push(0, 100);
        x.push(1, -100);
        x.push(2, -100);
        x.push(3, -100);
        x.tick(1);
        CHECK.told(x, "from 0 it is 1 more", 100, 100, 0, 1, 0, 1, 0);
        x.tick(1);
        CHECK.told(x, "at rest it has not turned", 100, 0, 0, 2, 0, 2, 0);
        x.tick(1);
        CHECK.told(x, "turned, in the middle", 0, -100, 0, 0, 0, 3, 1);
        x.tick(1);
        CHECK.told(x, "beyond the middle", -200, -200, 0, 1, 0, 4, 1);
        CHECK.due("the height of that turn", x.turn(0), 0);
        x.begin(-100);
        x.tick(1);
        CHECK.told(x, "PUSHES of tick 0 come again", 0, 100, 0, 0, 100, 1, 0);
        // begin forgets the way it went: the first speed is no turn
        x.begin(-100);
        x.rest();
        x.push(0, -50);
        x.tick(1);
        CHECK.told(x, "begun anew", -150, -50, 0, 1, 100, 1, 0);
    }

    private static void turningByOne() {
        SwingYard x = Check.swing(400, 1, 0);
        x.push(0, 1);
        x.push(1, -2);
        x.push(3, 2);
        x.tick(1);
        CHECK.told(x, "speed 1", 1, 1, 0, 1, 0, 1, 0);
        x.tick(1);
        CHECK.told(x, "speed -1", 0, -1, 0, 0, 0, 2, 1);
        x.tick(1);
        CHECK.told(x, "speed -1 again", -1, -1, 0, 1, 0, 3, 1);
        x.tick(1);
        CHECK.told(x, "speed 1 again", 0, 1, 0, 0, 0, 4, 2);
        x.begin(1);
        x.rest();
        x.push(0, -2);
        x.push(1, 4);
        x.tick(1);
        CHECK.told(x, "from 1 to -1", -1, -2, 0, 0, 1, 1, 0);
        x.tick(1);
        CHECK.told(x, "from -1 to 1", 1, 2, 0, 0, 1, 2, 1);
    }

    private static void slackRopes() {
        SwingYard x = Check.swing(400, 1, 0);
        x.push(0, 30000);
        x.begin(990000);
        CHECK.due("HEIGHT with a DROP", x.tick(1), 1000000);
        CHECK.told(x, "slack", 1000000, 0, 0, 1, 1000000, 1, 1, 0, 1, 17525);
        CHECK.due("a DROP is a turn", x.turn(0), 1000000);
        x.rest();
        x.push(0, -30000);
        x.begin(-990000);
        x.tick(1);
        CHECK.told(x, "slack, other side", -1000000, 0, 0, 1, 1000000, 1, 1, 0, 1, 17525);
        x.rest();
        x.push(0, 2500);
        x.push(1, 2501);
        x.push(2, 2600);
        x.push(3, 2510);
        x.begin(1000000);
        x.tick(1);
        CHECK.told(x, "at the bar is not above", 1000000, 0, 0, 1, 1000000, 1, 0, 0, 0, 0);
        x.tick(1);
        CHECK.told(x, "1 above", 1000000, 0, 0, 2, 1000000, 2, 1, 0, 1, 1);
        x.tick(2);
        CHECK.told(x, "the greatest DROP", 1000000, 0, 0, 4, 1000000, 4, 3, 0, 3, 100);
    }

    private static void noTurnBehindADrop() {
        SwingYard x = Check.swing(400, 1, 0);
        x.push(0, 30000);
        x.begin(950000);
        x.tick(1);
        CHECK.told(x, "going up", 977625, 27625, 0, 1, 950000, 1, 0);
        x.tick(1);
        CHECK.told(x, "the DROP", 1000000, 0, 0, 2, 1000000, 2, 1, 0, 1, 2806);
        x.tick(1);
        CHECK.told(x, "down is no turn", 997500, -2500, 0, 3, 1000000, 3, 1, 0, 1, 2806);
    }

    private static void besideIt() {
        SwingYard x = Check.swing(200, 2, 0, 2, 3, 0, 50, 200);
        x.begin(100000);
        x.tick(1);
        CHECK.told(x, "GIVE 50", 94000, -6000, 0, 1, 100000, 1, 0, 0, 0, 0, 5000, 5000);
        x.put(7, 50);
        x.tick(1);
        CHECK.told(x, "BESIDE 50", 82610, -11390, 0, 2, 100000, 2, 0, 0, 0, 0, 14250, 9250);
        x.put(2, 10);
        x.image(0);
        x.tick(1);
        // given 50 * (14250 - 82610) / 1000 = -3418; v -11390 - 826 - 3418 = -15634, less -156
        // w 9250 - 570 + 3418 = 12098, less 120
        CHECK.told(x, "LOSS on both", 67132, -15478, 0, 3, 100000, 3, 0, 0, 0, 0, 26228, 11978);
        x.from(0);
        x.put(2, 50);
        x.tick(1);
        // v less -781, w less 604
        CHECK.told(x, "LOSS 50 on both", 67757, -14853, 0, 3, 100000, 3, 0, 0, 0, 0, 25744, 11494);
    }

    private static void otherAtTheBar() {
        SwingYard x = Check.swing(200, 2, 1, 2, 3, 60, 20, 200);
        Check.law(x, "9*(v>0)");
        x.begin(300000);
        boolean reached = false;
        for (int i = 0; i < 400 && !reached; i++) {
            x.tick(1);
            reached = Math.abs(x.told(10)) == 1000000;
        }
        CHECK.due("the other one comes to the bar", reached ? 1 : 0, 1);
        CHECK.due("its speed there", x.told(11), 0);
    }

    /** At the bar it is not beyond it: its speed stays, and is the whole way that it came. */
    private static void otherJustAtTheBar(int place, int ticks, int lean, int give, int bar) {
        SwingYard x = Check.swing(200, 2, 0, 0, 9, lean, give, 200);
        Check.law(x, "9*(v>0)");
        x.begin(place);
        x.tick(ticks - 1);
        int before = x.told(10);
        x.tick(1);
        CHECK.due("the other one's place", x.told(10), bar);
        CHECK.due("the other one's speed", x.told(11), bar - before);
    }

    /** Each tick is reached by an object of its own, as none is used for more than 512 calls. */
    private static void keptTurns() {
        int[] heights = new int[200];
        int turns = 0;
        for (int i = 1; i <= 450; i++) {
            SwingYard y = Check.swing(50, 9, 1);
            y.begin(700000);
            y.tick(i);
            if (y.told(6) > turns) {
                heights[turns] = y.told(4);
                turns++;
            }
        }
        SwingYard x = Check.swing(50, 9, 1);
        x.begin(700000);
        x.tick(450);
        CHECK.due("more than 40 turns", turns > 40 ? 1 : 0, 1);
        CHECK.due("TURNS", x.told(6), turns);
        for (int i = 0; i < 40; i++) {
            CHECK.due("turn(" + i + ")", x.turn(i), heights[turns - 1 - i]);
        }
    }

    private static void wrongInputs() {
        SwingYard x = Check.swing(50, 9, 0);
        x.begin(40000);
        x.tick(30);
        for (int wrong : new int[] {-1000001, 1000001, Integer.MIN_VALUE, Integer.MAX_VALUE}) {
            CHECK.bad(x, "begin(" + wrong + ")", y -> y.begin(wrong), -2);
        }
        for (int wrong : new int[] {0, 501, -1, Integer.MIN_VALUE, Integer.MAX_VALUE}) {
            CHECK.bad(x, "tick(" + wrong + ")", y -> y.tick(wrong), -2);
        }
        for (int wrong : new int[] {-1, 12, Integer.MIN_VALUE, Integer.MAX_VALUE}) {
            CHECK.bad(x, "told(" + wrong + ")", y -> y.told(wrong), -10000000);
        }
        for (int wrong : new int[] {-1, 40, Integer.MIN_VALUE, Integer.MAX_VALUE}) {
            CHECK.bad(x, "turn(" + wrong + ")", y -> y.turn(wrong), -2);
        }
        CHECK.leavesAll(x, "turn(39), none", y -> y.turn(39));
        CHECK.due("tick(500)", x.tick(500) >= 0 ? 1 : 0, 1);
        CHECK.due("TICKS", x.told(5), 530);
    }
}
