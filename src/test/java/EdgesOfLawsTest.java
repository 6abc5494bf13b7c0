/**
 * Promises 3 to 5 at the edges that section 2 names: 60 characters, six digits, eight (, the text that
 * is empty or ends too early, truths, longs that wrap, what is divided by 0.
 */
public final class EdgesOfLawsTest {
    private static final Check CHECK = new Check();
    private static final String LEAST_LONG = "65536*65536*65536*32768";

    public static void main(String[] args) {
        sixtyCharacters();
        everyCharacterIsTaken();
        onlySomeCanStandAtFirst();
        onlySomeCanStandBehindAUnit();
        emptyIsAFault();
        blanksAloneEndTooEarly();
        endsTooEarly();
        sixDigits();
        blanksButWithinDigits();
        eightOpen();
        comparedOnce();
        theFirstFaultCounts();
        atTheLastPlaces();
        notZeroIsATruth();
        truthsAreOneAndZero();
        longsWrap();
        dividedByZeroIsZero();
        divisionCutsTowardZero();
        withAFaultPostureStays();
        faultFollowsTheText();
        CHECK.end();
    }

    private static SwingYard written(String text) {
        SwingYard x = new SwingYard();
        Check.law(x, text);
        return x;
    }

    private static void fault(String text, int want) {
        CHECK.due("fault of '" + text + "'", written(text).fault(), want);
    }

    /** The POSTURE that it wishes, from POSTURE 0 in the middle. */
    private static void wish(String text, int want) {
        SwingYard x = Check.swing(200, 2, 0, 0, 9);
        Check.law(x, text);
        CHECK.due("fault of '" + text + "'", x.fault(), -1);
        x.tick(1);
        CHECK.due("'" + text + "'", x.told(2), want);
    }

    private static void sixtyCharacters() {
        SwingYard x = new SwingYard();
        for (int i = 1; i <= 60; i++) {
            CHECK.due("write, the " + i + "th", x.write(i == 60 ? '7' : ' '), i);
        }
        CHECK.due("fault() of 60", x.fault(), -1);
        CHECK.refused(x, "write, the 61st", y -> y.write('7'), -4, 2);
        CHECK.refused(x, "write, the 61st again", y -> y.write(' '), -4, 2);
        CHECK.due("fault() is as it was", x.fault(), -1);
        x.put(4, 9);
        x.tick(1);
        CHECK.due("the 60th counts, the 61st does not", x.told(2), 7);
        CHECK.due("erase() of 60", x.erase(), 60);
        CHECK.due("erase() of none", x.erase(), 0);
        CHECK.due("write, emptied", x.write('1'), 1);
        CHECK.due("erase() of one", x.erase(), 1);
        CHECK.due("two are counted as FULL", x.status(2), 2);
    }

    private static void everyCharacterIsTaken() {
        SwingYard x = new SwingYard();
        for (int c = 0; c <= 127; c++) {
            if (c % 60 == 0) {
                x.erase();
            }
            CHECK.due("write(" + c + ")", x.write(c), c % 60 + 1);
        }
        CHECK.due("none is refused", x.status(0) + x.status(2), 0);
    }

    private static void onlySomeCanStandAtFirst() {
        for (int c = 0; c <= 127; c++) {
            boolean whole = "0123456789avhtuk".indexOf(c) >= 0;
            boolean begun = "(!- ".indexOf(c) >= 0;
            SwingYard x = new SwingYard();
            x.write(c);
            CHECK.due("fault of character " + c, x.fault(), whole ? -1 : begun ? 11 : 1);
        }
    }

    private static void onlySomeCanStandBehindAUnit() {
        for (int c = 0; c <= 127; c++) {
            boolean whole = c == ' ';
            boolean begun = "|&<>=+-*/".indexOf(c) >= 0;
            SwingYard x = written("a");
            x.write(c);
            CHECK.due("fault of a and character " + c, x.fault(), whole ? -1 : begun ? 21 : 11);
            x = written("1");
            x.write(c);
            boolean digit = c >= '0' && c <= '9';
            CHECK.due("fault of 1 and character " + c, x.fault(), whole || digit ? -1 : begun ? 21 : 11);
            x = written("(1");
            x.write(c);
            CHECK.due("fault of (1 and character " + c, x.fault(),
                    c == ')' ? -1 : whole || digit || begun ? 31 : 21);
        }
    }

    private static void emptyIsAFault() {
        CHECK.due("fault() of a new one", new SwingYard().fault(), 1);
        SwingYard x = written("1");
        x.erase();
        CHECK.due("fault() of an emptied one", x.fault(), 1);
    }

    private static void blanksAloneEndTooEarly() {
        for (int i = 1; i <= 60; i++) {
            fault(" ".repeat(i), 10 * i + 1);
        }
    }

    private static void endsTooEarly() {
        String[] begun = {"(", "!", "-", "1+", "1-", "1*", "1/", "1<", "1>", "1=", "1&", "1|", "(1", "((1)", "(1)+", "!-", "1+(2"};
        for (String text : begun) {
            fault(text, 10 * text.length() + 1);
            fault(text + " ", 10 * text.length() + 11);
            fault(text + "  ", 10 * text.length() + 21);
        }
    }

    private static void sixDigits() {
        fault("0", -1);
        fault("123456", -1);
        fault("1234567", 2);
        fault("0000000", 2);
        fault("12345678901234567890", 2);
        fault("a+123456", -1);
        fault("a+1234567", 22);
        fault("a+ 1234567", 32);
        fault("123456+123456", -1);
        fault("123456+1234567", 72);
        fault("(1234567)", 12);
        fault("1234567z", 2);
        fault("1234567 8", 2);
        fault("z1234567", 1);
        fault("a1234567", 11);
        wish("999999>999998", 1);
        wish("123456/23456", 5);
        wish("000009", 9);
    }

    private static void blanksButWithinDigits() {
        fault("1 2", 21);
        fault("12 3", 31);
        fault("123456 7", 71);
        fault("1  2", 31);
        fault(" 1 ", -1);
        fault("a v", 21);
        fault("( 1 )", -1);
        fault("! 1", -1);
        fault("- 1", -1);
        fault("1 < 2", -1);
        fault("1 +\t2", 31);
        fault("1\n", 11);
        wish("  2  *  (  1  +  2  )  -  -  1  ", 7);
    }

    private static void eightOpen() {
        fault("((((((((1))))))))", -1);
        fault("(((((((((1)))))))))", 83);
        fault("(((((((((", 83);
        fault("((((((((", 81);
        fault("-(-(-(-(-(-(-(-(-(1", 173);
        fault("1+((((((((1))))))))+((((((((2))))))))", -1);
        fault("1+((((((((1))))))))+(((((((((2)))))))))", 283);
        fault("(1)*(1)*(1)*(1)*(1)*(1)*(1)*(1)*(1)*(1)", -1);
        fault("(((((((1)+(2)))))))", -1);
        fault("((((((((1)+(2))))))))", -1);
        fault("((((((((1)+((2)))))))))", 123);
        // behind a unit it can not stand there, however many are open
        fault("((((((((1(", 91);
        wish("((((((((6))))))))", 6);
        wish("((((((((1)+1)+1)+1)+1)+1)+1)+1)", 8);
    }

    private static void comparedOnce() {
        fault("1<2", -1);
        fault("1<2<3", 31);
        fault("1>2>3", 31);
        fault("1=2=3", 31);
        fault("1=2<3", 31);
        fault("1+1<2+2>3", 71);
        fault("1<2&3<4|5=6", -1);
        fault("(1<2)<3", -1);
        fault("1<(2<3)", -1);
        fault("(1<2<3)", 41);
        fault("!1<2", -1);
        wish("!1<2", 1);
        wish("!(1<2)", 0);
    }

    private static void theFirstFaultCounts() {
        fault("z1234567", 1);
        fault("1234567+z", 2);
        fault("1++1234567", 21);
        fault("(((((((((+", 83);
        fault("+(((((((((", 1);
        fault("((((((((1234567(", 82);
        fault("1)1234567", 11);
    }

    private static void atTheLastPlaces() {
        String ones = "1+".repeat(29);
        fault(ones + "11", -1);
        fault(ones + "1z", 591);
        fault(ones + "1+", 601);
        fault(ones + "z1", 581);
        fault("1+".repeat(27) + "123456", -1);
        fault("1+".repeat(26) + " 1234567", 532);
        fault(" ".repeat(51) + "(((((((((", 593);
        fault(" ".repeat(52) + "((((((((", 601);
        fault("-".repeat(60), 601);
        fault("!".repeat(59) + "a", -1);
        fault(" ".repeat(59) + "z", 591);
    }

    private static void notZeroIsATruth() {
        for (String truth : new String[] {"1", "2", "-1", "999999", "(" + LEAST_LONG + ")", "(65536*65536)"}) {
            wish("9*(" + truth + "&1)", 9);
            wish("9*(1&" + truth + ")", 9);
            wish("9*(" + truth + "|0)", 9);
            wish("9*(0|" + truth + ")", 9);
            wish("9*!" + truth, 0);
            wish("9*!!" + truth, 9);
        }
        for (String zero : new String[] {"0", "-0", "(1-1)", "!7", "(65536*65536*65536*65536)"}) {
            wish("9*(" + zero + "&1)", 0);
            wish("9*(1&" + zero + ")", 0);
            wish("9*(" + zero + "|0)", 0);
            wish("9*(0|" + zero + ")", 0);
            wish("9*!" + zero, 9);
        }
    }

    private static void truthsAreOneAndZero() {
        wish("4+(5&6)", 5);
        wish("4+(5|6)", 5);
        wish("4+!0", 5);
        wish("4+(2<3)", 5);
        wish("4+(3>2)", 5);
        wish("4+(3=3)", 5);
        wish("4+(5&0)", 4);
        wish("4+(0|0)", 4);
        wish("4+!6", 4);
        wish("4+(3<3)", 4);
        wish("4+(3>3)", 4);
        wish("4+(3=2)", 4);
        wish("4+(" + LEAST_LONG + "<0)", 5);
        wish("4+(" + LEAST_LONG + "-1>" + LEAST_LONG + ")", 5);
    }

    private static void longsWrap() {
        wish("9*(" + LEAST_LONG + "<0)", 9);
        wish("9*(" + LEAST_LONG + "-1>0)", 9);
        wish("9*(" + LEAST_LONG + "-1+1<0)", 9);
        wish("9*(-(" + LEAST_LONG + ")<0)", 9);
        wish("9*(-(" + LEAST_LONG + ")=" + LEAST_LONG + ")", 9);
        wish(LEAST_LONG + "*2+6", 6);
        wish("65536*65536*65536*65536+7", 7);
        wish("(65536*65536*65536*65535+65536*65536*65536)+8", 8);
    }

    private static void dividedByZeroIsZero() {
        wish("1/0", 0);
        wish("3+9/0", 3);
        wish("3+0/0", 3);
        wish("3-9/0", 3);
        wish("3+9/(2-2)", 3);
        wish("3+9/0*5", 3);
        wish("3+9/a", 3);
        wish("3+" + LEAST_LONG + "/0", 3);
        wish("9*(" + LEAST_LONG + "/-1<0)", 9);
        wish("9*(" + LEAST_LONG + "/-1=" + LEAST_LONG + ")", 9);
    }

    private static void divisionCutsTowardZero() {
        wish("7/2", 3);
        wish("9+-7/2", 6);
        wish("9+7/-2", 6);
        wish("-7/-2", 3);
        wish("5+-1/2", 5);
        wish("5+1/-2", 5);
        wish("5+(0-999999)/999999", 4);
        wish("5+(0-999998)/999999", 5);
    }

    private static void withAFaultPostureStays() {
        String[] faulty = {"", " ", "z", "7+", "1234567", "(((((((((1)))))))))", "7 7", "(7", "7)", "1<2<3"};
        for (String text : faulty) {
            for (int posture = 0; posture <= 9; posture += 9) {
                SwingYard x = Check.swing(200, 2, 0, 4, 9, 90);
                Check.law(x, String.valueOf(posture));
                x.tick(1);
                int used = x.told(7);
                Check.law(x, text);
                CHECK.due("'" + text + "' has a FAULT", x.fault() > 0 ? 1 : 0, 1);
                x.tick(3);
                CHECK.due("POSTURE with '" + text + "'", x.told(2), posture);
                CHECK.due("STRENGTH with '" + text + "'", x.told(7), used);
            }
        }
    }

    /** A text that is sound again is worked again; one that becomes faulty no more. */
    private static void faultFollowsTheText() {
        SwingYard x = Check.swing(200, 2, 0, 0, 9);
        int[] characters = {'2', '+', '(', '3', ')', '+', '1'};
        int[] faults = {-1, 21, 31, 41, -1, 61, -1};
        int[] postures = {2, 2, 2, 2, 5, 5, 6};
        for (int i = 0; i < characters.length; i++) {
            x.write(characters[i]);
            CHECK.due("fault() behind " + (i + 1), x.fault(), faults[i]);
            x.tick(1);
            CHECK.due("POSTURE behind " + (i + 1), x.told(2), postures[i]);
        }
        x.erase();
        CHECK.due("fault(), emptied", x.fault(), 1);
        x.tick(1);
        CHECK.due("POSTURE, emptied", x.told(2), 6);
    }
}
