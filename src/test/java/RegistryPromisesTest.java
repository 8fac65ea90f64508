/** Promises 6 to 13: what the registry tells of all houses and laws. */
public final class RegistryPromisesTest {
    /** Each low house loses 6 hours to the wall in the west and 6 to that in the east. */
    private static final String CANYON = "house w at 0 high 30; house a at 1 high 0; house b at 2 high 0;"
        + "house c at 3 high 0; house d at 4 high 0; house e at 5 high 0; house f at 6 high 0; house g at 7 high 0;"
        + "house h at 8 high 0; house i at 9 high 0; house j at 10 high 0; house z at 11 high 30;";
    /** b loses 6 hours to c, and e loses 6 to d. */
    private static final String PAIRS = "house a at 1 high 0; house b at 50 high 0; house c at 51 high 9;"
        + "house d at 90 high 9; house e at 91 high 0;";

    public static void main(String[] args) {
        Check.runAll(RegistryPromisesTest.class);
    }

    private static ShadowRegistry dayAndNight() {
        return Check.taught(Stage.STREET
            + "law raise a by 1; law raise c by 0; law open b; law curfew b from 8 to 9 when day = 1;");
    }

    // ---- Promise 6: houses

    static void promise6Is0WithoutHouses() {
        Check.due("houses() of a new object", new ShadowRegistry().houses(), 0);
        Check.due("houses() of an empty registry", Check.taught("").houses(), 0);
    }

    static void promise6GoesTo12() {
        StringBuilder text = new StringBuilder();
        for (int house = 0; house < 12; house++) {
            text.append("house h").append(house).append(" at ").append(house).append(" high 1;");
            Check.due("houses()", Check.taught(text.toString()).houses(), house + 1);
        }
    }

    static void promise6StaysWith12BehindA13th() {
        ShadowRegistry x = Check.taught(Stage.twelveHouses());
        Check.tape(x, Stage.twelveHouses() + "house b at 1 high 1;");
        Check.due("teach() of 13 houses", x.teach(), 4);
        Check.due("houses()", x.houses(), 12);
    }

    // ---- Promise 7: laws

    static void promise7Is0WithoutLaws() {
        Check.due("laws() of a new object", new ShadowRegistry().laws(), 0);
        Check.due("laws() of houses alone", Check.taught(Stage.STREET).laws(), 0);
    }

    static void promise7GoesTo16() {
        for (int laws = 1; laws <= 16; laws++) {
            Check.due("laws()", Check.taught(Stage.STREET + Stage.repeated("law open a;", laws)).laws(), laws);
        }
    }

    static void promise7StaysWith16BehindA17th() {
        ShadowRegistry x = Check.taught(Stage.STREET + Stage.repeated("law open a;", 16));
        Check.tape(x, Stage.STREET + Stage.repeated("law open a;", 17));
        Check.due("teach() of 17 laws", x.teach(), 4);
        Check.due("laws()", x.laws(), 16);
    }

    static void promise7CountsLawsThatAreNotCarriedOut() {
        ShadowRegistry x = dayAndNight();
        x.passDays(1);
        Check.due("laws()", x.laws(), 4);
    }

    // ---- Promise 8: days

    static void promise8Is0AtTheBeginning() {
        Check.due("days() of a new object", new ShadowRegistry().days(), 0);
        Check.due("days() behind teach()", dayAndNight().days(), 0);
    }

    static void promise8CountsEachDay() {
        ShadowRegistry x = dayAndNight();
        x.passDays(1);
        Check.due("days()", x.days(), 1);
        x.passDays(30);
        Check.due("days()", x.days(), 31);
        x.passDays(2);
        Check.due("days()", x.days(), 33);
    }

    static void promise8CountsWithoutHousesAndLaws() {
        ShadowRegistry x = new ShadowRegistry();
        x.passDays(30);
        Check.due("days()", x.days(), 30);
    }

    static void promise8DoesNotCountWhatWouldBe() {
        ShadowRegistry x = dayAndNight();
        x.lostAfter(30);
        x.daysUntilLight();
        x.setCurfew(0, 6, 18);
        Check.due("days()", x.days(), 0);
    }

    // ---- Promise 9: lawsCarriedOut

    static void promise9Is0WithoutLaws() {
        ShadowRegistry x = Check.taught(Stage.STREET);
        x.passDays(30);
        Check.due("lawsCarriedOut()", x.lawsCarriedOut(), 0);
    }

    static void promise9CountsAllThatChangeSomething() {
        ShadowRegistry x = dayAndNight();
        x.passDays(1);
        Check.due("lawsCarriedOut() behind a day", x.lawsCarriedOut(), 1);
        x.passDays(2);
        Check.due("lawsCarriedOut() behind three", x.lawsCarriedOut(), 5);
    }

    static void promise9DoesNotCountWhatIsDoneByHandOrWouldBe() {
        ShadowRegistry x = dayAndNight();
        x.setCurfew(0, 6, 6);
        x.endCurfew(0);
        x.build(0, 30);
        x.move(0, 9);
        x.lostAfter(30);
        x.daysUntilLight();
        Check.due("lawsCarriedOut()", x.lawsCarriedOut(), 0);
    }

    // ---- Promise 10: allHoursLost

    static void promise10Is0WithoutHousesAndWithOne() {
        Check.due("allHoursLost() without houses", new ShadowRegistry().allHoursLost(), 0);
        Check.due("allHoursLost() with one house", Check.taught("house a at 1 high 30;").allHoursLost(), 0);
    }

    static void promise10AddsTheHoursOfAllHouses() {
        ShadowRegistry x = Check.taught(Stage.STREET);
        Check.due("allHoursLost()", x.allHoursLost(), 9);
        x.build(0, 0);
        Check.due("allHoursLost() without a wall", x.allHoursLost(), 0);
    }

    static void promise10CountsAnHourLostToSeveralOnce() {
        // c loses 13 to 18 to a and to b, and 6 to 11 to d; d loses 16 to 18 to a, and 18 to b
        ShadowRegistry x = Check.taught("house a at 50 high 30; house b at 49 high 30; house c at 51 high 0;"
            + "house d at 52 high 28;");
        Check.due("allHoursLost()", x.allHoursLost(), 15);
    }

    static void promise10OfAFullStreet() {
        Check.due("allHoursLost()", Check.taught(CANYON).allHoursLost(), 120);
    }

    // ---- Promise 11: lightHouses

    static void promise11Is0WithoutHouses() {
        Check.due("lightHouses()", new ShadowRegistry().lightHouses(), 0);
    }

    static void promise11CountsHousesThatLoseNoHour() {
        ShadowRegistry x = Check.taught(Stage.STREET);
        Check.due("lightHouses()", x.lightHouses(), 1);
        x.build(0, 0);
        Check.due("lightHouses() of all", x.lightHouses(), 3);
        Check.due("lightHouses() of a full street", Check.taught(CANYON).lightHouses(), 2);
    }

    static void promise11OneHourIsEnoughToBeNone() {
        // a's shadow of 18 is (36 - 30) / 6 = 1 high at b, that of 17 does not reach it
        ShadowRegistry x = Check.taught("house a at 10 high 6; house b at 25 high 0;");
        Check.due("hoursLost(1)", x.hoursLost(1), 1);
        Check.due("lightHouses()", x.lightHouses(), 1);
    }

    static void promise11Is0IfAllLoseOne() {
        ShadowRegistry x = Check.taught("house a at 50 high 5; house b at 51 high 5;");
        x.setCurfew(0, 6, 6);
        x.setCurfew(1, 18, 18);
        Check.due("lightHouses()", x.lightHouses(), 0);
    }

    // ---- Promise 12: worstHouse

    static void promise12IsRefusedWithoutHouses() {
        Check.refused("worstHouse()", Check.STATE, Stage::none, ShadowRegistry::worstHouse);
        Check.refused("worstHouse() of a new object", Check.STATE, ShadowRegistry::new, ShadowRegistry::worstHouse);
    }

    static void promise12OfOneHouseIsThat() {
        Check.due("worstHouse()", Stage.one().worstHouse(), 0);
    }

    static void promise12OfSeveralIsTheSmallestNumber() {
        ShadowRegistry x = Check.taught(PAIRS);
        Check.due("worstHouse() of b and e", x.worstHouse(), 1);
        x.build(2, 0);
        Check.due("worstHouse()", x.worstHouse(), 4);
        x.build(3, 0);
        Check.due("worstHouse() of all", x.worstHouse(), 0);
        Check.due("worstHouse() of ten", Check.taught(CANYON).worstHouse(), 1);
    }

    static void promise12CanBeEachOfTwelve() {
        for (int house = 0; house < 12; house++) {
            // a wall of 4 is 1 high 9 places away at 6 and at 18, and no more anywhere else
            ShadowRegistry x = lowTwelve();
            int wall = house == 0 ? 1 : house - 1;
            x.build(wall, 4);
            x.setCurfew(wall, house == 0 ? 12 : 6, house == 0 ? 18 : 12);
            Check.due("worstHouse()", x.worstHouse(), house);
            Check.due("allHoursLost()", x.allHoursLost(), 1);
        }
    }

    /** Twelve houses, each 9 places from the next one, with walls of 0. */
    private static ShadowRegistry lowTwelve() {
        ShadowRegistry x = Check.taught(Stage.twelveHouses());
        for (int house = 0; house < 12; house++) {
            x.build(house, 0);
        }
        return x;
    }

    // ---- Promise 13: darkestWall

    static void promise13IsRefusedWithoutHouses() {
        Check.refused("darkestWall()", Check.STATE, Stage::none, ShadowRegistry::darkestWall);
        Check.refused("darkestWall() of a new object", Check.STATE, ShadowRegistry::new, ShadowRegistry::darkestWall);
    }

    static void promise13OfOneHouseIsThat() {
        Check.due("darkestWall()", Stage.one().darkestWall(), 0);
    }

    static void promise13OfSeveralIsTheSmallestNumber() {
        ShadowRegistry x = Check.taught(PAIRS);
        Check.due("darkestWall() of c and d", x.darkestWall(), 2);
        x.build(2, 0);
        Check.due("darkestWall()", x.darkestWall(), 3);
        x.build(3, 0);
        Check.due("darkestWall() of all", x.darkestWall(), 0);
        Check.due("darkestWall() of two that cast 60 each", Check.taught(CANYON).darkestWall(), 0);
    }

    static void promise13CanBeEachOfTwelve() {
        for (int house = 0; house < 12; house++) {
            ShadowRegistry x = lowTwelve();
            x.build(house, 4);
            Check.due("darkestWall()", x.darkestWall(), house);
            Check.due("castBy " + house, x.castBy(house), house == 0 || house == 11 ? 1 : 2);
        }
    }

    static void promise13AnHourMoreIsEnough() {
        ShadowRegistry x = Check.taught(CANYON);
        x.setCurfew(0, 18, 18);
        Check.due("darkestWall()", x.darkestWall(), 11);
    }
}
