import java.math.BigInteger;

/** Promises 32 to 38: days, what would be, and what sums all up. */
public final class DayPromisesTest {
    /** b loses hours to a until a is 1 high. */
    private static final String TWO = "house a at 10 high 30; house b at 11 high 0;";

    public static void main(String[] args) {
        Check.runAll(DayPromisesTest.class);
    }

    private static ShadowRegistry street() {
        return Check.taught(Stage.STREET);
    }

    private static ShadowRegistry lowering(String laws) {
        return Check.taught(TWO + laws);
    }

    // ---- Promise 32: passDays

    static void promise32TakesFrom1To30Days() {
        Check.takes("passDays", 1, 30, Check.ARGUMENT, Stage::midway, (x, days) -> x.passDays(days));
        Check.takes("passDays without houses", 1, 30, Check.ARGUMENT, Stage::none, (x, days) -> x.passDays(days));
    }

    static void promise32AnswersTheLawsOfTheseDaysAlone() {
        ShadowRegistry x = Check.taught(Stage.STREET
            + "law raise a by -1; law raise c by 2 when height of c < 4;");
        Check.due("passDays(1)", x.passDays(1), 2);
        Check.due("passDays(30)", x.passDays(30), 12);
        Check.due("heightOf(0)", x.heightOf(0), 0);
        Check.due("heightOf(2)", x.heightOf(2), 4);
        Check.due("passDays(30)", x.passDays(30), 0);
        Check.due("days()", x.days(), 61);
    }

    static void promise32LetsAll30DaysGoBy() {
        ShadowRegistry x = Check.taught(Stage.STREET + "law raise c by 1;");
        Check.due("passDays(29)", x.passDays(29), 29);
        Check.due("heightOf(2)", x.heightOf(2), 29);
        Check.due("passDays(30)", x.passDays(30), 1);
        Check.due("days()", x.days(), 59);
        ShadowRegistry y = Check.taught(Stage.STREET + "law raise c by 1;");
        Check.due("passDays(30)", y.passDays(30), 30);
    }

    static void promise32WithoutLawsIs0() {
        ShadowRegistry x = street();
        Check.due("passDays(30)", x.passDays(30), 0);
        Check.due("days()", x.days(), 30);
        Check.due("passDays(30) of a new object", new ShadowRegistry().passDays(30), 0);
    }

    static void promise32WithSixteenLawsFor30Days() {
        StringBuilder laws = new StringBuilder();
        for (int law = 0; law < 8; law++) {
            laws.append("law raise b by 1; law raise b by -1;");
        }
        Check.due("passDays(30)", Check.taught(Stage.STREET + laws).passDays(30), 480);
    }

    // ---- Promise 33: lostAfter

    static void promise33TakesFrom1To30Days() {
        Check.takes("lostAfter", 1, 30, Check.ARGUMENT, Stage::midway, (x, days) -> x.lostAfter(days));
        Check.takes("lostAfter without houses", 1, 30, Check.ARGUMENT, Stage::none, (x, days) -> x.lostAfter(days));
    }

    static void promise33IsWhatPassDaysWouldLeave() {
        for (int days = 1; days <= 30; days++) {
            ShadowRegistry x = Stage.full();
            x.passDays(days);
            Check.due("lostAfter(" + days + ")", Stage.full().lostAfter(days), x.allHoursLost());
        }
    }

    static void promise33CountsAllTheseDays() {
        ShadowRegistry x = Check.taught(Stage.STREET + "law raise a by -4 when day > 0;");
        Check.due("lostAfter(1)", x.lostAfter(1), 9);
        // a is 8 high then: b, 4 places away, loses 14 to 18; c, 20 places away, loses 18
        Check.due("lostAfter(2)", x.lostAfter(2), 6);
        x.passDays(1);
        Check.due("lostAfter(1) from the second day on", x.lostAfter(1), 6);
        ShadowRegistry late = Check.taught(TWO + "law curfew a from 6 to 18 when day = 29;");
        Check.due("lostAfter(29)", late.lostAfter(29), 6);
        Check.due("lostAfter(30)", late.lostAfter(30), 0);
    }

    static void promise33LawsSeeTheShadowsOfNow() {
        String[] tests = {"dark b", "lost of c = 3", "cast of a = 9", "worst = 6", "shades a c", "height of b = 2"};
        for (String test : tests) {
            ShadowRegistry x = Check.taught(Stage.STREET + "law curfew a from 6 to 18 when " + test + ";");
            Check.due("lostAfter(1) with " + test, x.lostAfter(1), 0);
            x.build(0, 0);
            x.build(1, 0);
            x.lostAfter(1);
            x.build(0, 12);
            x.build(1, 2);
            Check.due("lostAfter(1) with " + test + " behind another street", x.lostAfter(1), 0);
            Check.due("daysUntilLight() with " + test, x.daysUntilLight(), 1);
        }
    }

    static void promise33WithoutHousesIs0() {
        Check.due("lostAfter(30)", new ShadowRegistry().lostAfter(30), 0);
    }

    static void promise33ChangesNothing() {
        Check.changesNothing("lostAfter(1)", 10, DayPromisesTest::lawful, x -> x.lostAfter(1));
        Check.changesNothing("lostAfter(30)", 0, DayPromisesTest::lawful, x -> x.lostAfter(30));
    }

    /** a's wall grows by 3 on the first day, which shades c an hour more, and is low from the third one on. */
    private static ShadowRegistry lawful() {
        return Check.taught(Stage.STREET + "law raise a by 3 when day = 0; law curfew a from 1 to 99 when day > 1;");
    }

    // ---- Promise 34: daysUntilLight

    static void promise34Is0IfNoneLosesAnHourNow() {
        Check.due("daysUntilLight() without houses", new ShadowRegistry().daysUntilLight(), 0);
        Check.due("daysUntilLight() of a house alone", Stage.one().daysUntilLight(), 0);
        ShadowRegistry x = lowering("law open a;");
        x.setCurfew(0, 6, 18);
        Check.due("daysUntilLight() with light now alone", x.daysUntilLight(), 0);
    }

    static void promise34Is1IfTheFirstDayBringsLight() {
        Check.due("daysUntilLight()", lowering("law curfew a from 0 to 18;").daysUntilLight(), 1);
    }

    static void promise34IsAtMost30() {
        for (int day = 25; day < 30; day++) {
            ShadowRegistry x = lowering("law curfew a from 6 to 18 when day = " + day + ";");
            Check.due("daysUntilLight() with light behind day " + day, x.daysUntilLight(), day + 1);
        }
    }

    static void promise34IsMinus1IfNotBy30Days() {
        Check.due("daysUntilLight() with light behind 31 days",
            lowering("law curfew a from 6 to 18 when day = 30;").daysUntilLight(), -1);
        Check.due("daysUntilLight() with no light ever", lowering("").daysUntilLight(), -1);
    }

    static void promise34CountsFromNowOn() {
        ShadowRegistry x = lowering("law curfew a from 6 to 18 when day = 30;");
        x.passDays(1);
        Check.due("daysUntilLight() a day later", x.daysUntilLight(), 30);
        x.passDays(29);
        Check.due("daysUntilLight() 30 days later", x.daysUntilLight(), 1);
        x.passDays(1);
        Check.due("daysUntilLight() 31 days later", x.daysUntilLight(), 0);
    }

    static void promise34CountsUntilTheFirstTime() {
        ShadowRegistry x = lowering("law curfew a from 6 to 18 when day = 3 or day = 9; law open a when day = 4;");
        Check.due("daysUntilLight()", x.daysUntilLight(), 4);
        x.passDays(5);
        Check.due("daysUntilLight() behind it", x.daysUntilLight(), 5);
    }

    static void promise34LawsSeeTheShadowsOfNow() {
        ShadowRegistry x = Check.taught(Stage.STREET + "law curfew a from 6 to 18 when dark b and cast of a = 9;");
        Check.due("daysUntilLight()", x.daysUntilLight(), 1);
        ShadowRegistry y = Check.taught(Stage.STREET + "law curfew a from 6 to 18 when not dark b or cast of a < 9;");
        Check.due("daysUntilLight()", y.daysUntilLight(), -1);
    }

    static void promise34LightWithinADayDoesNotCount() {
        ShadowRegistry x = lowering("law curfew a from 6 to 18; law open a;");
        Check.due("daysUntilLight()", x.daysUntilLight(), -1);
    }

    static void promise34ChangesNothing() {
        Check.changesNothing("daysUntilLight()", 3, DayPromisesTest::lawful, x -> x.daysUntilLight());
        Check.changesNothing("daysUntilLight()", -1, DayPromisesTest::street, x -> x.daysUntilLight());
        Check.changesNothing("daysUntilLight()", 0, Stage::one, x -> x.daysUntilLight());
    }

    // ---- Promise 35: fairCurfew

    /** A wall that is low ahead of noon stands in the shadow of the other one. */
    private static ShadowRegistry equalWalls() {
        return Check.taught("house a at 10 high 10; house b at 11 high 10;");
    }

    static void promise35TakesTheHousesThatAreThere() {
        Check.takesHouses("fairCurfew", (x, house) -> x.fairCurfew(house, 1));
    }

    static void promise35TakesFrom1To13Hours() {
        Check.takes("fairCurfew, hours", 1, 13, Check.ARGUMENT, Stage::midway, (x, hours) -> x.fairCurfew(0, hours));
    }

    static void promise35OfBothExceptionsTheFirstIsThrown() {
        for (int hours : new int[] {0, 14, -1, Integer.MIN_VALUE, Integer.MAX_VALUE}) {
            Check.refused("fairCurfew(-1) of " + hours, Check.INDEX, Stage::midway, x -> x.fairCurfew(-1, hours));
            Check.refused("fairCurfew(3) of " + hours, Check.INDEX, Stage::midway, x -> x.fairCurfew(3, hours));
            Check.refused("fairCurfew(0) without houses", Check.INDEX, Stage::none, x -> x.fairCurfew(0, hours));
        }
    }

    static void promise35FindsTheFewestHours() {
        // a takes two hours of light at 16, 17 and 18, and one at 13, 14 and 15
        int[] due = {16, 16, 16, 15, 14, 13, 12, 11, 10, 9, 8, 7, 6};
        for (int hours = 1; hours <= 13; hours++) {
            Check.due("fairCurfew(0, " + hours + ")", street().fairCurfew(0, hours), due[hours - 1]);
        }
    }

    static void promise35TheLastHourCanBe18() {
        ShadowRegistry x = Check.taught("house a at 10 high 6; house b at 25 high 0;");
        for (int hours = 1; hours <= 13; hours++) {
            Check.due("fairCurfew(0, " + hours + ") with 18 alone lost", x.fairCurfew(0, hours), 19 - hours);
        }
    }

    static void promise35TheFirstHourCanBe6() {
        ShadowRegistry x = Check.taught("house a at 25 high 6; house b at 10 high 0;");
        Check.due("hoursLost(1)", x.hoursLost(1), 1);
        for (int hours = 1; hours <= 13; hours++) {
            Check.due("fairCurfew(0, " + hours + ") with 6 alone lost", x.fairCurfew(0, hours), 6);
        }
    }

    static void promise35OfSeveralIsTheSmallest() {
        Check.due("fairCurfew(2, 1) of a wall that shades none", street().fairCurfew(2, 1), 6);
        Check.due("fairCurfew(0, 1) of a house alone", Stage.one().fairCurfew(0, 1), 6);
        Check.due("fairCurfew(0, 13) of a house alone", Stage.one().fairCurfew(0, 13), 6);
    }

    static void promise35CountsTheHoursOfAllHouses() {
        int[] due = {12, 12, 12, 12, 12, 12, 12, 11, 10, 9, 8, 7, 6};
        for (int hours = 1; hours <= 13; hours++) {
            Check.due("fairCurfew(0, " + hours + ") of two equal walls", equalWalls().fairCurfew(0, hours),
                due[hours - 1]);
        }
        for (int hours = 1; hours <= 7; hours++) {
            Check.due("fairCurfew(1, " + hours + ") of two equal walls", equalWalls().fairCurfew(1, hours), 6);
        }
    }

    static void promise35StandsInThePlaceOfItsOwnOne() {
        ShadowRegistry x = street();
        x.setCurfew(0, 13, 18);
        Check.due("fairCurfew(0, 1)", x.fairCurfew(0, 1), 16);
        Check.due("fairCurfew(0, 6)", x.fairCurfew(0, 6), 13);
        x.setCurfew(0, 16, 16);
        Check.due("fairCurfew(0, 1) of the one that it has", x.fairCurfew(0, 1), 16);
    }

    static void promise35OtherCurfewsStay() {
        // the other wall is low at 13 to 18: so a shades none of its hours that a's curfew could spare but 16 to 18
        ShadowRegistry x = Check.taught("house a at 10 high 12; house b at 14 high 12; house c at 18 high 2;");
        x.setCurfew(1, 17, 17);
        Check.due("hoursLostTo(1, 0)", x.hoursLostTo(1, 0), 1);
        Check.due("fairCurfew(0, 1)", x.fairCurfew(0, 1), 17);
    }

    /** a shades c at 18 alone; d would shade a's wall, if that were low, from 13 to 17. */
    private static ShadowRegistry guarded() {
        ShadowRegistry x = Check.taught("house a at 10 high 6; house c at 25 high 0; house d at 9 high 6;");
        x.setCurfew(2, 18, 18);
        return x;
    }

    /** guarded() turned round: a shades c at 6 alone; d would shade a's wall, if that were low, from 7 to 11. */
    private static ShadowRegistry guardedInTheMorning() {
        ShadowRegistry x = Check.taught("house a at 89 high 6; house c at 74 high 0; house d at 90 high 6;");
        x.setCurfew(2, 6, 6);
        return x;
    }

    static void promise35AllItsHoursAreHoursOfLight() {
        Check.due("fairCurfew(0, 1): 18", guarded().fairCurfew(0, 1), 18);
        Check.due("fairCurfew(0, 2): 17 costs what 18 spares", guarded().fairCurfew(0, 2), 6);
        Check.due("fairCurfew(0, 1): 6", guardedInTheMorning().fairCurfew(0, 1), 6);
        Check.due("fairCurfew(0, 2): 7 costs what 6 spares", guardedInTheMorning().fairCurfew(0, 2), 6);
        Check.due("fairCurfew(0, 3): from 12 on nothing is spared", guardedInTheMorning().fairCurfew(0, 3), 12);
    }

    static void promise35ChangesNothing() {
        for (int hours = 1; hours <= 13; hours += 6) {
            int many = hours;
            Check.changesNothing("fairCurfew(0, " + hours + ")", street().fairCurfew(0, hours), DayPromisesTest::street,
                x -> x.fairCurfew(0, many));
            Check.changesNothing("fairCurfew(2, " + hours + ")", Stage.midway().fairCurfew(2, hours), Stage::midway,
                x -> x.fairCurfew(2, many));
        }
    }

    // ---- Promise 36: fairestWall

    static void promise36TakesFrom1To13Hours() {
        Check.takes("fairestWall", 1, 13, Check.ARGUMENT, Stage::midway, (x, hours) -> x.fairestWall(hours));
        Check.takes("fairestWall without houses", 1, 13, Check.ARGUMENT, Stage::none,
            (x, hours) -> x.fairestWall(hours));
    }

    static void promise36IsMinus1WithoutHouses() {
        for (int hours = 1; hours <= 13; hours++) {
            Check.due("fairestWall", new ShadowRegistry().fairestWall(hours), -1);
        }
    }

    static void promise36IsMinus1IfNothingIsLost() {
        Check.due("fairestWall of a house alone", Stage.one().fairestWall(1), -1);
        ShadowRegistry x = street();
        x.setCurfew(0, 13, 18);
        Check.due("fairestWall(6)", x.fairestWall(6), -1);
        Check.due("fairestWall(1)", x.fairestWall(1), -1);
        Check.due("fairestWall(13) of two equal walls", equalWalls().fairestWall(13), -1);
    }

    static void promise36IsMinus1IfJustAsManyWouldBeLost() {
        ShadowRegistry x = street();
        x.setCurfew(0, 16, 18);
        Check.due("fairestWall(3): the curfew that it has", x.fairestWall(3), -1);
        Check.due("fairestWall(2): a worse one", x.fairestWall(2), -1);
        Check.due("fairestWall(4): one hour less", x.fairestWall(4), 0);
    }

    static void promise36AllHoursOfACurfewAreHoursOfLight() {
        Check.due("fairestWall(1): 18", guarded().fairestWall(1), 0);
        Check.due("fairestWall(2): 17 costs what 18 spares", guarded().fairestWall(2), -1);
        Check.due("fairestWall(1): 6", guardedInTheMorning().fairestWall(1), 0);
        Check.due("fairestWall(2): 7 costs what 6 spares", guardedInTheMorning().fairestWall(2), -1);
    }

    static void promise36OneHourLessIsEnough() {
        Check.due("fairestWall(1)", Check.taught("house a at 10 high 6; house b at 25 high 0;").fairestWall(1), 0);
        Check.due("fairestWall(13)", Check.taught("house b at 25 high 0; house a at 10 high 6;").fairestWall(13), 1);
    }

    static void promise36OfSeveralIsTheSmallestNumber() {
        ShadowRegistry x = Check.taught("house a at 1 high 0; house b at 50 high 0; house c at 51 high 9;"
            + "house d at 90 high 9; house e at 91 high 0;");
        Check.due("fairestWall(6) of c and d", x.fairestWall(6), 2);
        x.build(2, 0);
        Check.due("fairestWall(6)", x.fairestWall(6), 3);
    }

    static void promise36IsTheWallWithTheFewestHoursThen() {
        // a takes 1 hour of b, c takes 6 of d
        ShadowRegistry x = Check.taught("house a at 10 high 6; house b at 25 high 0; house c at 60 high 9;"
            + "house d at 61 high 0;");
        Check.due("fairestWall(1): one hour less with each", x.fairestWall(1), 0);
        Check.due("fairestWall(2): two less with c", x.fairestWall(2), 2);
        Check.due("fairestWall(13)", x.fairestWall(13), 2);
    }

    static void promise36CanBeTheLastOfTwelve() {
        ShadowRegistry x = Check.taught(Stage.twelveHouses());
        for (int house = 0; house < 12; house++) {
            x.build(house, house == 11 ? 30 : 0);
        }
        Check.due("fairestWall(13)", x.fairestWall(13), 11);
    }

    static void promise36ChangesNothing() {
        for (int hours = 1; hours <= 13; hours += 6) {
            int many = hours;
            Check.changesNothing("fairestWall(" + hours + ")", 0, DayPromisesTest::street, x -> x.fairestWall(many));
            Check.changesNothing("fairestWall(" + hours + ")", Stage.full().fairestWall(hours), Stage::full,
                x -> x.fairestWall(many));
        }
        Check.changesNothing("fairestWall(1)", -1, Stage::one, x -> x.fairestWall(1));
    }

    // ---- Promise 37: meanLost

    static void promise37Is0WithoutHouses() {
        Check.dueBits("meanLost() without houses", new ShadowRegistry().meanLost(), 0.0);
        Check.dueBits("meanLost() of an empty registry", Check.taught("").meanLost(), 0.0);
    }

    static void promise37Is0IfNothingIsLost() {
        Check.dueBits("meanLost() of a house alone", Stage.one().meanLost(), 0.0);
    }

    static void promise37IsNotCut() {
        ShadowRegistry x = street();
        Check.dueBits("meanLost()", x.meanLost(), 3.0);
        x.setCurfew(0, 18, 18);
        Check.dueBits("meanLost()", x.meanLost(), 7.0 / 3.0);
        Check.dueBits("meanLost()", Check.taught("house a at 10 high 6; house b at 25 high 0;").meanLost(), 0.5);
    }

    static void promise37DividesByAllTwelve() {
        ShadowRegistry x = Check.taught(Stage.twelveHouses());
        for (int house = 0; house < 12; house++) {
            x.build(house, house == 11 ? 3 : 0);
        }
        // the shadow of 6 reaches 9 places and is 0 high there; one of 4 is (24 - 18) / 6 = 1 high
        Check.dueBits("meanLost()", x.meanLost(), 0.0);
        x.build(11, 4);
        Check.dueBits("meanLost()", x.meanLost(), 1.0 / 12.0);
    }

    // ---- Promise 38: digest

    static void promise38WithoutHouses() {
        Check.due("digest()", new ShadowRegistry().digest(), digestOf(new long[6 + 13]));
        ShadowRegistry x = new ShadowRegistry();
        x.passDays(30);
        long[] due = new long[6 + 13];
        due[2] = 30;
        Check.due("digest() behind 30 days", x.digest(), digestOf(due));
    }

    static void promise38TakesAllNumbersInTheirOrder() {
        ShadowRegistry x = Check.taught(Stage.STREET + "law curfew b from 7 to 8;");
        x.passDays(2);
        // b's curfew at 7 and 8 changes no shadow that falls on it then
        long[] due = {3, 1, 2, 1, 9, 1,
            10, 12, -1, -1, 0, 9, 0, 0, 0,
            14, 2, 7, 8, 6, 0, 6, 0, 0,
            30, 0, -1, -1, 3, 0, 3, 0, 0,
            0, 0, 0, 0, 0, 0, 0, 1, 1, 1, 2, 2, 2};
        Check.due("digest()", x.digest(), digestOf(due));
    }

    static void promise38WithoutACurfewIsMinus1Twice() {
        long[] due = {1, 0, 0, 0, 0, 1, 10, 12, -1, -1, 0, 0, 0, 0, 0, 0, 0, 0, 0, 0, 0, 0, 0, 0, 0, 0};
        ShadowRegistry x = Check.taught("house a at 10 high 12;");
        Check.due("digest()", x.digest(), digestOf(due));
        x.setCurfew(0, 6, 18);
        due[8] = 6;
        due[9] = 18;
        Check.due("digest() with a curfew", x.digest(), digestOf(due));
        x.endCurfew(0);
        due[8] = -1;
        due[9] = -1;
        Check.due("digest() behind it", x.digest(), digestOf(due));
    }

    static void promise38WrapsAroundAsA64BitInteger() {
        ShadowRegistry x = Stage.full();
        long[] due = new long[6 + 12 * 18 + 13];
        due[0] = 12;
        due[1] = 16;
        due[2] = 3;
        due[3] = x.lawsCarriedOut();
        due[4] = x.allHoursLost();
        due[5] = x.lightHouses();
        int next = 6;
        for (int house = 0; house < 12; house++) {
            due[next] = x.placeOf(house);
            due[next + 1] = x.heightOf(house);
            due[next + 2] = x.curfewFrom(house);
            due[next + 3] = x.curfewTo(house);
            due[next + 4] = x.hoursLost(house);
            due[next + 5] = x.castBy(house);
            for (int by = 0; by < 12; by++) {
                due[next + 6 + by] = x.hoursLostTo(house, by);
            }
            next += 18;
        }
        for (int hour = 6; hour <= 18; hour++) {
            due[next + hour - 6] = x.housesInTheDark(hour);
        }
        Check.due("digest()", x.digest(), digestOf(due));
    }

    static void promise38ChangesNothing() {
        Check.changesNothing("digest()", Stage.full().digest(), Stage::full, ShadowRegistry::digest);
    }

    /** Reckoned without a wrap, and cut to its last 64 bits at the end. */
    private static long digestOf(long[] numbers) {
        BigInteger d = BigInteger.valueOf(1013);
        for (long number : numbers) {
            d = d.multiply(BigInteger.valueOf(31)).add(BigInteger.valueOf(number));
        }
        return d.longValue();
    }
}
