/** Promises 3 to 5: write, erase, fault, and what a LAW is worth. */
public final class LawTest {
    private static final Check CHECK = new Check();

    public static void main(String[] args) {
        writing();
        erasing();
        faults();
        worths();
        letters();
        staysWithAFault();
        CHECK.end();
    }

    private static void writing() {
        SwingYard x = new SwingYard();
        CHECK.bad(x, "write(-1)", y -> y.write(-1), -2);
        CHECK.bad(x, "write(128)", y -> y.write(128), -2);
        CHECK.bad(x, "write(MIN)", y -> y.write(Integer.MIN_VALUE), -2);
        for (int i = 1; i <= 60; i++) {
            CHECK.due("write " + i, x.write(i % 2 == 0 ? 127 : 0), i);
        }
        CHECK.refused(x, "write(48), full", y -> y.write(48), -4, 2);
        CHECK.bad(x, "write(128), full", y -> y.write(128), -2);
        CHECK.due("erase() of 60", x.erase(), 60);
        CHECK.due("write(48), emptied", x.write(48), 1);
    }

    private static void erasing() {
        SwingYard x = new SwingYard();
        Check.law(x, "1+");
        CHECK.due("fault of 1+", x.fault(), 21);
        CHECK.due("erase()", x.erase(), 2);
        CHECK.due("fault of none", x.fault(), 1);
        CHECK.due("erase() again", x.erase(), 0);
    }

    private static void fault(String text, int want) {
        SwingYard x = new SwingYard();
        Check.law(x, text);
        CHECK.due("fault of '" + text + "'", x.fault(), want);
        CHECK.leavesAll(x, "fault()", SwingYard::fault);
    }

    private static void faults() {
        String[] sound = {
            "0", "123456", "000000", "a", "v", "h", "t", "u", "k", "(a)", "!a", "-a", "!-!-!a", "- - a",
            "a|v|h", "a&v&h", "a<v", "a>v", "a=v", "a+v-h", "a*v/h", " a ", "a < v & h > t | u = k",
            "(1<2)<3", "1<(2<3)", "1<2&2<3", "1<2|2<3", "((((((((1))))))))",
            "(1)+(2)+(3)+(4)+(5)+(6)+(7)+(8)+(9)", "1--1", "1-!-1", "-(a)", "(((1))|((2)))&3", "1 +2"};
        for (String text : sound) {
            fault(text, -1);
        }
        fault("", 1);
        fault("   ", 31);
        fault("z", 1);
        fault(" z", 11);
        fault("A", 1);
        fault("\t1", 1);
        fault("1\t", 11);
        fault("1\0", 11);
        fault("1+", 21);
        fault("1+ ", 31);
        fault("+1", 1);
        fault("*1", 1);
        fault("1**2", 21);
        fault("1+*2", 21);
        fault("|1", 1);
        fault("1|", 21);
        fault("1||2", 21);
        fault("1&&2", 21);
        fault("1&|2", 21);
        fault("1<2<3", 31);
        fault("1<2=3", 31);
        fault("1=2>3", 31);
        fault("1<2+3>4", 51);
        fault("1<=2", 21);
        fault("1!2", 11);
        fault("!", 11);
        fault("-", 11);
        fault("1-", 21);
        fault("a v", 21);
        fault("av", 11);
        fault("1a", 11);
        fault("a1", 11);
        fault("1 2", 21);
        fault("12 34", 31);
        fault("1(2)", 11);
        fault("(1)2", 31);
        fault("(1)(2)", 31);
        fault("()", 11);
        fault("(", 11);
        fault("(1", 21);
        fault("(1 ", 31);
        fault(")", 1);
        fault("1)", 11);
        fault("(1))", 31);
        fault("(1<2<3)", 41);
        fault("1234567", 2);
        fault("12345678", 2);
        fault("0000000", 2);
        fault(" 1234567", 12);
        fault("1+1234567z", 22);
        fault("123456 7", 71);
        fault("(((((((((", 83);
        fault("(((((((((1", 83);
        fault("( ( ( ( ( ( ( ( (", 163);
        fault("((((((((1(", 91);
        fault("((((((((1)+(2)+((", 163);
        fault("((((((((1)))))))+((((((((", 243);
        fault("(1)+(((((((((", 123);
        String bars = "------------------------------------------------------------";
        fault(bars, 601);
        fault(bars.substring(1) + "1", -1);
    }

    /** The POSTURE that a LAW brings about in one tick with QUICK 9. */
    private static void worth(String text, int want) {
        SwingYard x = Check.swing(200, 2, 0, 0, 9);
        Check.law(x, text);
        CHECK.due("fault of '" + text + "'", x.fault(), -1);
        x.tick(1);
        CHECK.due("'" + text + "'", x.told(2), want);
    }

    private static void worths() {
        worth("5", 5);
        worth("10", 9);
        worth("999999", 9);
        worth("-1", 0);
        worth("000007", 7);
        worth("1+2*3", 7);
        worth("(1+2)*3", 9);
        worth("8-3-2", 3);
        worth("8-(3-2)", 7);
        worth("8/2/2", 2);
        worth("8/(2/2)", 8);
        worth("2*7/4", 3);
        worth("7/2", 3);
        worth("9-7/-2", 9);
        worth("9+-7/2", 6);
        worth("9+(0-7)/2", 6);
        worth("5+7/-2", 2);
        worth("4+7/0", 4);
        worth("4+0/0", 4);
        worth("2<3", 1);
        worth("3<2", 0);
        worth("2<2", 0);
        worth("3>2", 1);
        worth("2>3", 0);
        worth("2>2", 0);
        worth("2=2", 1);
        worth("2=3", 0);
        worth("-3<2", 1);
        worth("1+1<3", 1);
        worth("9*(2<3)", 9);
        worth("(3<4)+(4<5)+(5<6)", 3);
        worth("5|0", 1);
        worth("0|7", 1);
        worth("0|0", 0);
        worth("2|4", 1);
        worth("5&3", 1);
        worth("2&4", 1);
        worth("5&0", 0);
        worth("0&5", 0);
        worth("1|0&0", 1);
        worth("0&0|1", 1);
        worth("(1|0)&0", 0);
        worth("1<2&2<3", 1);
        worth("1<2&3<3", 0);
        worth("0|3<4", 1);
        worth("!0", 1);
        worth("!5", 0);
        worth("!!5", 1);
        worth("!-5", 0);
        worth("-!0+6", 5);
        worth("--3", 3);
        worth("---3+7", 4);
        worth("!-!0", 0);
        worth("2+!0*3", 5);
        worth("!0+1", 2);
        worth("!(1<2)+4", 4);
        worth("-3+9", 6);
        worth("-3*-3", 9);
        worth("9--0", 9);
        worth("4--3", 7);
        worth(" 1 + 2 * ( 3 ) ", 7);
        worth("((((((((8))))))))", 8);
        // 60 characters that are a part each
        worth("-1" + "+1".repeat(29), 9);
        worth("-8" + "+1".repeat(14) + "-1".repeat(14) + "+9", 1);
        worth("-".repeat(58) + "7", 7);
        worth("1|1&1<1+1*(1|1&1<1+1*(1|1&1<1+1*(1|1&1<1+1*(1|0+6))))", 1);
        // longs wrap: 999999 * 999999 * 999999 * 10 is beyond the greatest
        worth("999999*999999*999999*9>0", 1);
        worth("999999*999999*999999*10<0", 1);
        worth("65536*65536*65536*65536+3", 3);
        worth("7*(65536*65536*65536*32768<0)", 7);
        // the least long by -1 wraps to itself
        worth("6*(65536*65536*65536*32768/-1<0)", 6);
        worth("6*(-(65536*65536*65536*32768)<0)", 6);
    }

    private static void letters() {
        SwingYard x = Check.swing(400, 1, 0, 0, 9);
        x.begin(5);
        Check.law(x, "a");
        x.tick(1);
        CHECK.due("a", x.told(2), 5);
        x.begin(0);
        x.push(0, 7);
        Check.law(x, "v");
        x.tick(1);
        CHECK.due("v, at first", x.told(2), 0);
        x.tick(1);
        CHECK.due("v", x.told(2), 7);
        x.begin(0);
        Check.law(x, "h+2");
        x.tick(3);
        CHECK.due("h", x.told(2), 6);
        x.begin(5);
        Check.law(x, "t");
        x.tick(1);
        CHECK.due("t, at first", x.told(2), 0);
        x.tick(3);
        CHECK.due("t", x.told(2), 3);
        x.begin(-6);
        Check.law(x, "u");
        x.tick(1);
        CHECK.due("u", x.told(2), 6);
        x.begin(0);
        Check.law(x, "k");
        x.tick(1);
        CHECK.due("k, at first", x.told(2), 0);
        x.tick(4);
        CHECK.due("k", x.told(2), 4);
    }

    private static void staysWithAFault() {
        SwingYard x = Check.swing(200, 2, 0, 2, 9);
        Check.law(x, "6");
        x.tick(1);
        CHECK.due("POSTURE", x.told(2), 6);
        for (String text : new String[] {"", " ", "1+", "1z", "1<2<3", "1234567", "((((((((("}) {
            Check.law(x, text);
            x.tick(2);
            CHECK.due("POSTURE with '" + text + "'", x.told(2), 6);
            CHECK.due("STRENGTH with '" + text + "'", x.told(7), 60);
        }
        Check.law(x, "2");
        x.tick(1);
        CHECK.due("POSTURE, mended", x.told(2), 2);
    }
}
