/** 'What it is' and 'Terms': how long an object is used, and the arithmetic of the language. */
public final class TermsTest {
    private static final int LEAST = Integer.MIN_VALUE;
    private static final int MOST = Integer.MAX_VALUE;
    /** No step of these two wraps around. */
    private static final String LEAST_TEXT = "(-214748 * 10000 - 3648)";
    private static final String MOST_TEXT = "(214748 * 10000 + 3647)";

    public static void main(String[] args) {
        Check.runAll(TermsTest.class);
    }

    private static boolean holds(String test) {
        return Check.taught("house a at 10 high 12; law raise a by 1 when " + test + ";").passDays(1) == 1;
    }

    /** The sum as a text no step of which wraps around. */
    private static String text(int number) {
        return "(" + sign(number / 10000) + " * 10000 + " + sign(number % 10000) + ")";
    }

    private static String sign(int number) {
        return number < 0 ? "-" + -number : "" + number;
    }

    private static void sum(String sum, int due) {
        Check.due(sum + " = " + due, holds(sum + " = " + text(due)), true);
        Check.due(sum + " = 1 more than " + due, holds(sum + " = " + text(due + 1)), false);
        Check.due(sum + " = 1 less than " + due, holds(sum + " = " + text(due - 1)), false);
        Check.due(sum + " < 0", holds(sum + " < 0"), due < 0);
        Check.due(sum + " > 0", holds(sum + " > 0"), due > 0);
    }

    // ---- What it is

    static void whatItIsTheLastOf512CallsStillAnswers() {
        String text = Stage.STREET + "law raise b by 1 when height of b = 2; law raise b by -1 when height of b = 3;";
        // what taught() calls: trim, feed for each twenty bytes, trim and teach
        int calls = 1 + (text.length() + 19) / 20 + 2;
        ShadowRegistry x = Check.taught(text);
        int times = 510 - calls;
        for (int i = 1; i <= times; i++) {
            Check.due("passDays(30) for time " + i, x.passDays(30), 60);
        }
        Check.due("call 511, days()", x.days(), 30 * times);
        Check.due("call 512, lawsCarriedOut()", x.lawsCarriedOut(), 60 * times);
    }

    static void whatItIs512RefusedCallsChangeNothing() {
        ShadowRegistry x = new ShadowRegistry();
        long before = x.digest();
        for (int call = 2; call < 512; call++) {
            Check.dueText("call " + call, Check.outcome(x::worstHouse), Check.STATE.getName());
        }
        Check.due("call 512, digest()", x.digest(), before);
    }

    static void whatItIsTheLastOf512CallsCanTeach() {
        ShadowRegistry x = new ShadowRegistry();
        for (int turn = 0; turn < 170; turn++) {
            // "house a at 1 high 2;" and, each second time, a ; too much
            x.feed(0x686f7573, 0x65206120, 0x61742031, 0x20686967, 0x6820323b);
            x.feed(turn % 2 == 0 ? 0x20202020 : 0x203b2020, 0x20202020, 0x20202020, 0x20202020, 0x20202020);
            Check.due("teach() in turn " + turn, x.teach(), turn % 2);
        }
        Check.due("call 511, errorAt()", x.errorAt(), 21);
        Check.due("call 512, teach() of the empty tape", x.teach(), 0);
    }

    // ---- Terms

    static void termsSumsWrapAround() {
        sum(MOST_TEXT + " + 0", MOST);
        sum(MOST_TEXT + " + 1", LEAST);
        sum(LEAST_TEXT + " + -1", MOST);
        sum(LEAST_TEXT + " + 0", LEAST);
        sum(MOST_TEXT + " + " + MOST_TEXT, -2);
        sum(LEAST_TEXT + " + " + LEAST_TEXT, 0);
    }

    static void termsDifferencesWrapAround() {
        sum(LEAST_TEXT + " - 0", LEAST);
        sum(LEAST_TEXT + " - 1", MOST);
        sum(MOST_TEXT + " - -1", LEAST);
        sum("0 - " + LEAST_TEXT, LEAST);
        sum("-1 - " + LEAST_TEXT, MOST);
        sum("0 - " + MOST_TEXT, -MOST);
    }

    static void termsProductsWrapAround() {
        sum("46340 * 46340", 2147395600);
        sum("46341 * 46341", -2147479015);
        sum("65536 * 65536", 0);
        sum("32768 * 65536", LEAST);
        sum("-32768 * 65536", LEAST);
        sum("999999 * 999999", -729379967);
        sum(LEAST_TEXT + " * -1", LEAST);
        sum(MOST_TEXT + " * 2", -2);
        sum(MOST_TEXT + " * " + MOST_TEXT, 1);
    }

    static void termsATurnedValueWrapsAround() {
        sum("-" + LEAST_TEXT, LEAST);
        sum("- -" + LEAST_TEXT, LEAST);
        sum("-" + MOST_TEXT, -MOST);
    }

    static void termsAWrapCountsInTheMiddleOfASum() {
        sum(MOST_TEXT + " + 1 - 1", MOST);
        sum("(" + MOST_TEXT + " + 1) / 2", -1073741824);
        sum("65536 * 65536 / 65536", 0);
        sum(MOST_TEXT + " * 2 / 2", -1);
        sum("min(" + MOST_TEXT + " + 1, 0)", LEAST);
        sum("max(" + LEAST_TEXT + " - 1, 0)", MOST);
    }

    static void termsComparisonsTakeTheEndsOf32Bits() {
        Check.due("the least < the most", holds(LEAST_TEXT + " < " + MOST_TEXT), true);
        Check.due("the most > the least", holds(MOST_TEXT + " > " + LEAST_TEXT), true);
        Check.due("the most <= the least", holds(MOST_TEXT + " <= " + LEAST_TEXT), false);
        Check.due("the least >= the most", holds(LEAST_TEXT + " >= " + MOST_TEXT), false);
        Check.due("the least = the most", holds(LEAST_TEXT + " = " + MOST_TEXT), false);
        sum("min(" + LEAST_TEXT + ", " + MOST_TEXT + ")", LEAST);
        sum("max(" + LEAST_TEXT + ", " + MOST_TEXT + ")", MOST);
    }

    static void termsAQuotientIsCutTowards0() {
        sum("7 / 2", 3);
        sum("-7 / 2", -3);
        sum("7 / -2", -3);
        sum("-7 / -2", 3);
        sum("1 / 2", 0);
        sum("-1 / 2", 0);
        sum("1 / -2", 0);
        sum("6 / 3", 2);
        sum("-6 / 3", -2);
        sum(LEAST_TEXT + " / 2", -1073741824);
        sum(LEAST_TEXT + " / " + LEAST_TEXT, 1);
        sum(MOST_TEXT + " / " + LEAST_TEXT, 0);
        sum(LEAST_TEXT + " / " + MOST_TEXT, -1);
    }

    static void termsAQuotientBy0Is0() {
        sum("5 / 0", 0);
        sum("-5 / 0", 0);
        sum("0 / 0", 0);
        sum(LEAST_TEXT + " / 0", 0);
        sum(MOST_TEXT + " / 0", 0);
        sum("5 / (1 - 1)", 0);
        sum("1 + 5 / 0", 1);
        sum("5 / 0 * 7", 0);
        sum("12 / height of a / 0 + day", 0);
    }

    static void termsTheLeastNumberByMinus1IsItself() {
        sum(LEAST_TEXT + " / -1", LEAST);
        sum(LEAST_TEXT + " / 1", LEAST);
        sum(MOST_TEXT + " / -1", -MOST);
        sum("(" + LEAST_TEXT + " + 1) / -1", MOST);
    }

    static void termsPositionsAreCountedFrom0InBytes() {
        Check.error(1, 0, "!");
        Check.error(1, 3, "\n \n!");
        Check.error(1, 0, "\u00e4\u00f6");
        Check.error(1, 20, "house a at 1 high 2;" + (char) 255 + (char) 255);
        Check.error(5, 11, "house a at 100 high 2;");
    }
}
