/** Promises 14 to 21: what is told of one house. */
public final class HousePromisesTest {
    /** STREET turned round: b loses 6 to 11 and c loses 6 to 8, both to a. */
    private static final String MIRRORED = "house a at 89 high 12; house b at 85 high 2; house c at 69 high 0;";
    /** c loses 13 to 18 to a and to b, and 6 to 11 to d; d loses 16 to 18 to a, and 18 to b. */
    private static final String CROWD = "house a at 50 high 30; house b at 49 high 30; house c at 51 high 0;"
        + "house d at 52 high 28;";

    public static void main(String[] args) {
        Check.runAll(HousePromisesTest.class);
    }

    // ---- Promise 14: placeOf

    static void promise14TakesTheHousesThatAreThere() {
        Check.takesHouses("placeOf", (x, house) -> x.placeOf(house));
    }

    static void promise14IsThePlaceOfEachHouse() {
        ShadowRegistry x = Stage.full();
        for (int house = 0; house < 12; house++) {
            Check.due("placeOf " + house, x.placeOf(house), 9 * house);
        }
        Check.due("placeOf of a moved house", Stage.midway().placeOf(2), 28);
    }

    // ---- Promise 15: heightOf

    static void promise15TakesTheHousesThatAreThere() {
        Check.takesHouses("heightOf", (x, house) -> x.heightOf(house));
    }

    static void promise15IsTheHeightOfEachHouse() {
        ShadowRegistry x = Check.taught(Stage.twelveHouses());
        for (int house = 0; house < 12; house++) {
            Check.due("heightOf " + house, x.heightOf(house), Stage.heightOfTwelve(house));
        }
    }

    static void promise15IsItsOwnOneInACurfew() {
        ShadowRegistry x = Check.taught(Stage.STREET);
        x.setCurfew(0, 6, 18);
        Check.due("heightOf(0)", x.heightOf(0), 12);
    }

    // ---- Promise 16: hoursLost

    static void promise16TakesTheHousesThatAreThere() {
        Check.takesHouses("hoursLost", (x, house) -> x.hoursLost(house));
    }

    static void promise16CountsHoursToTheEastAndToTheWest() {
        int[] due = {0, 6, 3};
        ShadowRegistry east = Check.taught(Stage.STREET);
        ShadowRegistry west = Check.taught(MIRRORED);
        for (int house = 0; house < 3; house++) {
            Check.due("hoursLost of " + house + " in the east", east.hoursLost(house), due[house]);
            Check.due("hoursLost of " + house + " in the west", west.hoursLost(house), due[house]);
        }
    }

    static void promise16CountsAnHourLostToSeveralOnce() {
        int[] due = {0, 0, 12, 3};
        ShadowRegistry x = Check.taught(CROWD);
        for (int house = 0; house < 4; house++) {
            Check.due("hoursLost of " + house, x.hoursLost(house), due[house]);
        }
    }

    static void promise16Is0ForAHouseAlone() {
        Check.due("hoursLost(0)", Stage.one().hoursLost(0), 0);
    }

    // ---- Promise 17: castBy

    static void promise17TakesTheHousesThatAreThere() {
        Check.takesHouses("castBy", (x, house) -> x.castBy(house));
    }

    static void promise17AddsTheHoursOfAllOthers() {
        int[] due = {9, 0, 0};
        ShadowRegistry east = Check.taught(Stage.STREET);
        ShadowRegistry west = Check.taught(MIRRORED);
        for (int house = 0; house < 3; house++) {
            Check.due("castBy " + house + " in the west", east.castBy(house), due[house]);
            Check.due("castBy " + house + " in the east", west.castBy(house), due[house]);
        }
    }

    static void promise17CountsHoursThatOthersShadeAsWell() {
        int[] due = {9, 7, 0, 6};
        ShadowRegistry x = Check.taught(CROWD);
        for (int house = 0; house < 4; house++) {
            Check.due("castBy " + house, x.castBy(house), due[house]);
        }
    }

    static void promise17Is0ForAHouseAlone() {
        Check.due("castBy(0)", Stage.one().castBy(0), 0);
    }

    // ---- Promise 18: hasCurfew

    static void promise18TakesTheHousesThatAreThere() {
        Check.takesHouses("hasCurfew", (x, house) -> x.hasCurfew(house) ? 1 : 0);
    }

    static void promise18TellsOfEachWall() {
        ShadowRegistry x = Check.taught(Stage.STREET + "law curfew b from 3 to 9;");
        Check.due("hasCurfew(1) ahead of the law", x.hasCurfew(1), false);
        x.passDays(1);
        Check.due("hasCurfew(1)", x.hasCurfew(1), true);
        Check.due("hasCurfew(0)", x.hasCurfew(0), false);
        Check.due("hasCurfew(2)", x.hasCurfew(2), false);
        x.endCurfew(1);
        Check.due("hasCurfew(1) behind its end", x.hasCurfew(1), false);
    }

    static void promise18HoldsForTheShortestCurfews() {
        ShadowRegistry x = Check.taught(Stage.STREET);
        x.setCurfew(0, 6, 6);
        x.setCurfew(1, 18, 18);
        Check.due("hasCurfew(0) from 6 to 6", x.hasCurfew(0), true);
        Check.due("hasCurfew(1) from 18 to 18", x.hasCurfew(1), true);
    }

    // ---- Promise 19: curfewFrom

    static void promise19TakesTheHousesThatAreThere() {
        Check.takesHouses("curfewFrom", (x, house) -> x.curfewFrom(house));
    }

    static void promise19IsRefusedWithoutACurfew() {
        for (int house = 0; house < 2; house++) {
            int without = house;
            Check.refused("curfewFrom of " + house, Check.STATE, Stage::midway, x -> x.curfewFrom(without));
        }
        Check.due("curfewFrom(2), which has one", Stage.midway().curfewFrom(2), 9);
    }

    static void promise19IsTheFirstHour() {
        ShadowRegistry x = Stage.full();
        for (int house = 0; house < 12; house++) {
            Check.due("curfewFrom of " + house, x.curfewFrom(house), 6 + house);
        }
        x.setCurfew(0, 18, 18);
        Check.due("curfewFrom(0)", x.curfewFrom(0), 18);
        x.setCurfew(0, 6, 18);
        Check.due("curfewFrom(0)", x.curfewFrom(0), 6);
    }

    // ---- Promise 20: curfewTo

    static void promise20TakesTheHousesThatAreThere() {
        Check.takesHouses("curfewTo", (x, house) -> x.curfewTo(house));
    }

    static void promise20IsRefusedWithoutACurfew() {
        for (int house = 0; house < 2; house++) {
            int without = house;
            Check.refused("curfewTo of " + house, Check.STATE, Stage::midway, x -> x.curfewTo(without));
        }
        Check.due("curfewTo(2), which has one", Stage.midway().curfewTo(2), 16);
    }

    static void promise20IsTheLastHour() {
        ShadowRegistry x = Stage.full();
        for (int house = 0; house < 12; house++) {
            Check.due("curfewTo of " + house, x.curfewTo(house), 7 + house);
        }
        x.setCurfew(0, 6, 6);
        Check.due("curfewTo(0)", x.curfewTo(0), 6);
        x.setCurfew(0, 6, 18);
        Check.due("curfewTo(0)", x.curfewTo(0), 18);
    }

    // ---- Promise 21: hoursLostTo

    static void promise21TakesTheHousesThatAreThere() {
        Check.takesHouses("hoursLostTo, first", (x, house) -> x.hoursLostTo(house, 0));
        Check.takesHouses("hoursLostTo, second", (x, house) -> x.hoursLostTo(0, house));
    }

    static void promise21TheSameHouseTwiceHasToBeThere() {
        Check.takesHouses("hoursLostTo, both", (x, house) -> x.hoursLostTo(house, house));
    }

    static void promise21Is0ForTheSame() {
        ShadowRegistry x = Check.taught(CROWD);
        for (int house = 0; house < 4; house++) {
            Check.due("hoursLostTo of both " + house, x.hoursLostTo(house, house), 0);
        }
    }

    static void promise21IsWhatTheFirstLosesToTheSecond() {
        ShadowRegistry x = Check.taught(Stage.STREET);
        Check.due("hoursLostTo(1, 0)", x.hoursLostTo(1, 0), 6);
        Check.due("hoursLostTo(2, 0)", x.hoursLostTo(2, 0), 3);
        Check.due("hoursLostTo(0, 1)", x.hoursLostTo(0, 1), 0);
        Check.due("hoursLostTo(2, 1)", x.hoursLostTo(2, 1), 0);
    }

    static void promise21CountsHoursThatOthersShadeAsWell() {
        ShadowRegistry x = Check.taught(CROWD);
        Check.due("hoursLostTo(2, 0)", x.hoursLostTo(2, 0), 6);
        Check.due("hoursLostTo(2, 1)", x.hoursLostTo(2, 1), 6);
        Check.due("hoursLostTo(2, 3)", x.hoursLostTo(2, 3), 6);
        Check.due("hoursLostTo(3, 0)", x.hoursLostTo(3, 0), 3);
        Check.due("hoursLostTo(3, 1)", x.hoursLostTo(3, 1), 1);
    }
}
