/** '2. Shadows': how a day goes, and what tests and sums tell. */
public final class LawsTest {
    public static void main(String[] args) {
        Check.runAll(LawsTest.class);
    }

    /** On the first day, whether a law with this test is carried out. */
    private static void holds(String test, boolean due) {
        ShadowRegistry x = Check.taught(Stage.STREET + "law raise b by 1 when " + test + ";");
        Check.due("passDays(1) with " + test, x.passDays(1), due ? 1 : 0);
    }

    private static void equal(String left, String right) {
        holds(left + " = " + right, true);
        holds("not " + left + " = " + right, false);
    }

    // ---- The order of a day

    static void aDayTheNumberOfDaysGrowsBehindAllLaws() {
        ShadowRegistry x = Check.taught(Stage.STREET + "law raise a by 1 when day = 0; law raise b by 1 when day = 0;"
            + "law raise c by 1 when day = 1;");
        Check.due("passDays(1)", x.passDays(1), 2);
        Check.due("passDays(1)", x.passDays(1), 1);
        Check.due("passDays(1)", x.passDays(1), 0);
    }

    static void aDayLawsComeInTheOrderInWhichTheyAreTold() {
        ShadowRegistry x = Check.taught(Stage.STREET + "law raise c by 30; law raise c by -2; law raise c by 1;");
        Check.due("passDays(1)", x.passDays(1), 3);
        Check.due("heightOf(2)", x.heightOf(2), 29);
    }

    static void aDayATestIsLookedAtAsItComesToItsTurn() {
        ShadowRegistry x = Check.taught(Stage.STREET + "law curfew a from 6 to 18; law raise c by 1 when not dark b;"
            + "law open a; law raise c by 2 when dark b; law raise c by 4 when day = 1;");
        Check.due("passDays(1)", x.passDays(1), 4);
        Check.due("heightOf(2)", x.heightOf(2), 3);
        Check.due("passDays(1)", x.passDays(1), 5);
        Check.due("heightOf(2)", x.heightOf(2), 10);
    }

    static void aDayASumIsReckonedAsItComesToItsTurn() {
        ShadowRegistry x = Check.taught(Stage.STREET + "law raise c by day; law raise c by height of c + 1;"
            + "law curfew b from 6 + height of c to 18;");
        Check.due("passDays(1)", x.passDays(1), 2);
        Check.due("heightOf(2)", x.heightOf(2), 1);
        Check.due("curfewFrom(1)", x.curfewFrom(1), 7);
        Check.due("passDays(1)", x.passDays(1), 3);
        Check.due("heightOf(2)", x.heightOf(2), 5);
        Check.due("curfewFrom(1)", x.curfewFrom(1), 11);
    }

    static void aDayWithoutATestALawIsCarriedOutEachDay() {
        ShadowRegistry x = Check.taught(Stage.STREET + "law raise c by 1;");
        Check.due("passDays(5)", x.passDays(5), 5);
    }

    static void aDayALawWhoseTestDoesNotHoldDoesNothing() {
        ShadowRegistry x = Check.taught(Stage.STREET + "law raise a by 1 when 1 > 2;"
            + "law curfew a from 6 to 18 when 1 > 2; law open b when 1 > 2;");
        x.setCurfew(1, 7, 8);
        Check.due("passDays(30)", x.passDays(30), 0);
        Check.due("heightOf(0)", x.heightOf(0), 12);
        Check.due("hasCurfew(0)", x.hasCurfew(0), false);
        Check.due("hasCurfew(1)", x.hasCurfew(1), true);
    }

    // ---- curfew

    private static void curfew(String from, String to, int dueFrom, int dueTo) {
        ShadowRegistry x = Check.taught(Stage.STREET + "law curfew a from " + from + " to " + to + ";");
        Check.due("curfew from " + from + " to " + to, x.passDays(1), 1);
        Check.due("curfewFrom(0) from " + from + " to " + to, x.curfewFrom(0), dueFrom);
        Check.due("curfewTo(0) from " + from + " to " + to, x.curfewTo(0), dueTo);
    }

    private static void noCurfew(String from, String to) {
        ShadowRegistry x = Check.taught(Stage.STREET + "law curfew a from " + from + " to " + to + ";");
        Check.due("no curfew from " + from + " to " + to, x.passDays(1), 0);
        Check.due("hasCurfew(0) from " + from + " to " + to, x.hasCurfew(0), false);
        x.setCurfew(0, 7, 9);
        Check.due("no curfew in the place of another one", x.passDays(1), 0);
        Check.due("curfewFrom(0) of the other one", x.curfewFrom(0), 7);
        Check.due("curfewTo(0) of the other one", x.curfewTo(0), 9);
    }

    static void curfewLawsTakeTheHoursOfTheirSums() {
        for (int from = 6; from <= 18; from++) {
            for (int to = from; to <= 18; to++) {
                curfew(from + "", to + "", from, to);
            }
        }
        curfew("7 + 1", "2 * 7", 8, 14);
    }

    static void curfewLawsHoldTheFirstHourAt6And18() {
        curfew("6", "9", 6, 9);
        curfew("5", "9", 6, 9);
        curfew("0", "9", 6, 9);
        curfew("-1", "9", 6, 9);
        curfew("32768 * 65536", "9", 6, 9);
        curfew("18", "18", 18, 18);
        curfew("19", "18", 18, 18);
        curfew("999999", "18", 18, 18);
        curfew("32768 * 65536 - 1", "18", 18, 18);
    }

    static void curfewLawsHoldTheLastHourAt6And18() {
        curfew("9", "18", 9, 18);
        curfew("9", "19", 9, 18);
        curfew("9", "999999", 9, 18);
        curfew("9", "32768 * 65536 - 1", 9, 18);
        curfew("6", "6", 6, 6);
        curfew("6", "5", 6, 6);
        curfew("6", "-999999", 6, 6);
        curfew("6", "32768 * 65536", 6, 6);
    }

    static void curfewLawsHoldBothHours() {
        curfew("5", "19", 6, 18);
        curfew("99", "20", 18, 18);
        curfew("3", "2", 6, 6);
        curfew("21", "20", 18, 18);
    }

    static void curfewLawsDoNothingIfTheLastHourIsLessThen() {
        for (int from = 7; from <= 18; from++) {
            noCurfew(from + "", (from - 1) + "");
        }
        noCurfew("18", "6");
        noCurfew("99", "17");
        noCurfew("7", "-1");
        noCurfew("7", "32768 * 65536");
        noCurfew("32768 * 65536 - 1", "17");
    }

    static void curfewLawsStandInThePlaceOfAnotherCurfew() {
        ShadowRegistry x = Check.taught(Stage.STREET + "law curfew a from 8 to 9; law curfew a from 8 to 10;");
        Check.due("passDays(2)", x.passDays(2), 4);
        Check.due("curfewFrom(0)", x.curfewFrom(0), 8);
        Check.due("curfewTo(0)", x.curfewTo(0), 10);
        ShadowRegistry y = Check.taught(Stage.STREET + "law curfew a from 8 to 9; law curfew a from 7 to 9;");
        Check.due("passDays(2) with another first hour", y.passDays(2), 4);
        Check.due("curfewFrom(0)", y.curfewFrom(0), 7);
    }

    static void curfewLawsOfTheSameHoursChangeNothing() {
        ShadowRegistry x = Check.taught(Stage.STREET + "law curfew a from 5 to 30;");
        Check.due("passDays(4)", x.passDays(4), 1);
        x.setCurfew(0, 6, 17);
        Check.due("passDays(4) behind another curfew by hand", x.passDays(4), 1);
        x.setCurfew(0, 6, 18);
        Check.due("passDays(4) behind the same by hand", x.passDays(4), 0);
    }

    // ---- open

    static void openLawsEndACurfew() {
        ShadowRegistry x = Check.taught(Stage.STREET + "law open a;");
        x.setCurfew(0, 6, 6);
        x.setCurfew(1, 6, 6);
        Check.due("passDays(1)", x.passDays(1), 1);
        Check.due("hasCurfew(0)", x.hasCurfew(0), false);
        Check.due("hasCurfew(1)", x.hasCurfew(1), true);
    }

    static void openLawsWithoutACurfewChangeNothing() {
        ShadowRegistry x = Check.taught(Stage.STREET + "law open a; law open a;");
        Check.due("passDays(1)", x.passDays(1), 0);
        x.setCurfew(0, 18, 18);
        Check.due("passDays(1) of two", x.passDays(1), 1);
        Check.due("passDays(1) behind it", x.passDays(1), 0);
    }

    // ---- raise

    private static void raise(String by, int due, int dueHeight) {
        ShadowRegistry x = Check.taught(Stage.STREET + "law raise a by " + by + ";");
        Check.due("raise by " + by, x.passDays(1), due);
        Check.due("heightOf(0) raised by " + by, x.heightOf(0), dueHeight);
    }

    static void raiseLawsAddAndTakeAway() {
        raise("5", 1, 17);
        raise("-5", 1, 7);
        raise("1", 1, 13);
        raise("-1", 1, 11);
    }

    static void raiseLawsAreHeldAt30() {
        raise("17", 1, 29);
        raise("18", 1, 30);
        raise("19", 1, 30);
        raise("999999", 1, 30);
    }

    static void raiseLawsAreHeldAt0() {
        raise("-11", 1, 1);
        raise("-12", 1, 0);
        raise("-13", 1, 0);
        raise("-999999", 1, 0);
    }

    static void raiseLawsDoNotWrapAround() {
        raise("32768 * 65536 - 1", 1, 30);
        raise("32768 * 65536 - 12", 1, 30);
        raise("32768 * 65536 - 13", 1, 30);
        raise("32768 * 65536", 1, 0);
    }

    static void raiseLawsBy0ChangeNothing() {
        raise("0", 0, 12);
        raise("1 - 1", 0, 12);
    }

    static void raiseLawsThatAreHeldWhereTheyAreChangeNothing() {
        ShadowRegistry x = Check.taught(Stage.STREET + "law raise a by 9; law raise c by -1;");
        Check.due("passDays(3): 21, 30 and no change", x.passDays(3), 2);
        Check.due("heightOf(0)", x.heightOf(0), 30);
        Check.due("heightOf(2)", x.heightOf(2), 0);
    }

    static void raiseLawsRaiseTheOwnHeightInACurfew() {
        ShadowRegistry x = Check.taught(Stage.STREET + "law raise a by 3;");
        x.setCurfew(0, 6, 18);
        Check.due("passDays(1)", x.passDays(1), 1);
        Check.due("heightOf(0)", x.heightOf(0), 15);
        Check.due("heightAt(0, 6)", x.heightAt(0, 6), 0);
    }

    // ---- What is carried out

    static void carriedOutAreAllThatChangeSomethingEvenIfItIsTakenBack() {
        ShadowRegistry x = Check.taught(Stage.STREET + "law raise a by 1; law raise a by -1; law curfew b from 7 to 8;"
            + "law open b;");
        long shadows = x.allHoursLost();
        Check.due("passDays(1)", x.passDays(1), 4);
        Check.due("passDays(30)", x.passDays(30), 120);
        Check.due("allHoursLost()", x.allHoursLost(), shadows);
    }

    // ---- Values

    static void valuesOfTheFirstDay() {
        equal("day", "0");
        equal("worst", "6");
        equal("lost of a", "0");
        equal("lost of b", "6");
        equal("lost of c", "3");
        equal("cast of a", "9");
        equal("cast of b", "0");
        equal("height of a", "12");
        equal("height of c", "0");
        equal("000012", "12");
        equal("999999", "999998 + 1");
    }

    static void valuesDayCountsTheDaysThatWentBy() {
        ShadowRegistry x = Check.taught(Stage.STREET
            + "law raise c by 1 when day = 29; law raise c by 1 when day = 31;");
        Check.due("passDays(29)", x.passDays(29), 0);
        Check.due("passDays(1), the 30th", x.passDays(1), 1);
        Check.due("passDays(1), the 31st", x.passDays(1), 0);
        Check.due("passDays(1), the 32nd", x.passDays(1), 1);
    }

    static void valuesWorstIs0IfNothingIsLost() {
        ShadowRegistry x = Check.taught("house a at 1 high 30; law raise a by worst - 1;");
        Check.due("passDays(1)", x.passDays(1), 1);
        Check.due("heightOf(0)", x.heightOf(0), 29);
    }

    static void valuesWorstIsThatOfTheWorstHouse() {
        ShadowRegistry x = Check.taught("house a at 50 high 0; house b at 49 high 30; house c at 51 high 30;"
            + "house d at 89 high 0; law raise a by 1 when worst = 12 and lost of d < 12 and lost of d > 0;");
        Check.due("passDays(1)", x.passDays(1), 1);
    }

    static void valuesCastCountsHoursThatOthersShadeAsWell() {
        ShadowRegistry x = Check.taught("house a at 50 high 30; house b at 49 high 30; house c at 51 high 0;"
            + "law raise a by -1 when lost of c = 6 and cast of a = 6 and cast of b = 6 and worst = 6;");
        Check.due("passDays(1)", x.passDays(1), 1);
    }

    static void valuesHeightIsTheOwnOneCurfewOrNot() {
        ShadowRegistry x = Check.taught(Stage.STREET + "law raise c by 1 when height of a = 12;");
        x.setCurfew(0, 6, 18);
        Check.due("passDays(1)", x.passDays(1), 1);
    }

    static void valuesFollowWhatIsDoneByHand() {
        ShadowRegistry x = Check.taught(Stage.STREET + "law raise c by 1 when lost of b = 0;");
        Check.due("passDays(1)", x.passDays(1), 0);
        x.setCurfew(0, 6, 18);
        Check.due("passDays(1) with a curfew", x.passDays(1), 1);
        x.endCurfew(0);
        Check.due("passDays(1) without it", x.passDays(1), 0);
        x.build(1, 30);
        Check.due("passDays(1) with a high wall", x.passDays(1), 1);
    }

    // ---- Sums

    static void sumsBindAsTheGrammarTells() {
        equal("1 + 2 * 3", "7");
        equal("(1 + 2) * 3", "9");
        equal("10 - 3 - 2", "5");
        equal("10 - (3 - 2)", "9");
        equal("20 / 3 / 2", "3");
        equal("20 / (3 / 2)", "20");
        equal("2 * 7 / 4", "3");
        equal("7 / 4 * 2", "2");
        equal("-2 * 3", "-6");
        equal("-(2 + 3)", "-5");
        equal("- 2 + 3", "1");
        equal("- - 5", "5");
    }

    static void sumsTakeTheLesserAndTheGreater() {
        equal("min(3, -4)", "-4");
        equal("min(-4, 3)", "-4");
        equal("max(3, -4)", "3");
        equal("max(-4, 3)", "3");
        equal("min(2, 2) + max(1, min(9, 8))", "10");
    }

    // ---- Tests

    static void testsCompareOnBothSidesOfEquality() {
        holds("1 < 2", true);
        holds("2 < 2", false);
        holds("3 < 2", false);
        holds("-3 < 2", true);
        holds("1 > 2", false);
        holds("2 > 2", false);
        holds("3 > 2", true);
        holds("1 = 2", false);
        holds("2 = 2", true);
        holds("3 = 2", false);
        holds("1 <= 2", true);
        holds("2 <= 2", true);
        holds("3 <= 2", false);
        holds("1 >= 2", false);
        holds("2 >= 2", true);
        holds("3 >= 2", true);
    }

    static void testsShadesHoldsAtSomeHour() {
        holds("shades a b", true);
        holds("shades a c", true);
        holds("shades b a", false);
        holds("shades b c", false);
        holds("shades c a", false);
    }

    static void testsShadesHoldsForOneHourAlone() {
        String law = "law raise a by 1 when shades a b;";
        Check.due("passDays(1) with one hour",
            Check.taught("house a at 10 high 6; house b at 25 high 0;" + law).passDays(1), 1);
        Check.due("passDays(1) with none",
            Check.taught("house a at 10 high 6; house b at 26 high 0;" + law).passDays(1), 0);
    }

    static void testsShadesOfTheSameDoesNotHold() {
        holds("shades a a", false);
        holds("shades b b", false);
    }

    static void testsShadesHoldsIfOthersShadeItAsWell() {
        ShadowRegistry x = Check.taught("house a at 50 high 30; house b at 49 high 30; house c at 51 high 0;"
            + "law raise a by -1 when shades a c and shades b c and not shades a b;");
        Check.due("passDays(1)", x.passDays(1), 1);
    }

    static void testsDarkHoldsForOneHourAlone() {
        holds("dark a", false);
        holds("dark b", true);
        String law = "law raise a by 1 when dark b;";
        Check.due("passDays(1) with one hour",
            Check.taught("house a at 10 high 6; house b at 25 high 0;" + law).passDays(1), 1);
        Check.due("passDays(1) with none",
            Check.taught("house a at 10 high 6; house b at 26 high 0;" + law).passDays(1), 0);
    }

    static void testsNotTurnsWhatFollowsAlone() {
        holds("not 1 = 1", false);
        holds("not not dark b", true);
        holds("not 1 = 1 and 1 = 2", false);
        holds("not 1 = 2 and 1 = 2", false);
        holds("not 1 = 1 or 1 = 1", true);
        holds("not [1 = 1 or 1 = 1]", false);
        holds("not [1 = 1 and 1 = 2]", true);
    }

    static void testsAndBindsMoreThanOr() {
        holds("1 = 1 or 1 = 1 and 1 = 2", true);
        holds("1 = 2 and 1 = 1 or 1 = 1", true);
        holds("[1 = 1 or 1 = 1] and 1 = 2", false);
        holds("1 = 2 and [1 = 1 or 1 = 1]", false);
        holds("1 = 2 and 1 = 1 or 1 = 2", false);
        holds("1 = 1 and 1 = 1 or 1 = 2 and 1 = 2", true);
    }

    static void testsOfAndAndOrLookAtBothSides() {
        boolean[] sides = {false, true};
        for (boolean left : sides) {
            for (boolean right : sides) {
                String both = (left ? "dark b" : "dark a");
                String other = (right ? "dark c" : "dark a");
                holds(both + " and " + other, left && right);
                holds(both + " or " + other, left || right);
                holds("not [" + both + " and " + other + "]", !(left && right));
                holds("not [" + both + " or " + other + "]", !(left || right));
            }
        }
    }
}
