/** Promises 22 to 27: what is told of an hour. */
public final class HourPromisesTest {
    public static void main(String[] args) {
        Check.runAll(HourPromisesTest.class);
    }

    // ---- Promise 22: heightAt

    static void promise22TakesTheHousesThatAreThere() {
        Check.takesHouses("heightAt", (x, house) -> x.heightAt(house, 6));
    }

    static void promise22TakesTheHours0To23() {
        Check.takesHours("heightAt", (x, hour) -> x.heightAt(0, hour));
    }

    static void promise22NoHouseAtNoHourIsRefused() {
        Check.refused("heightAt(-1, 24)", Check.INDEX, Stage::midway, x -> x.heightAt(-1, 24));
        Check.refused("heightAt(3, -1)", Check.INDEX, Stage::midway, x -> x.heightAt(3, -1));
    }

    static void promise22IsItsOwnOneAtAllHoursWithoutACurfew() {
        ShadowRegistry x = Check.taught(Stage.STREET);
        for (int hour = 0; hour < 24; hour++) {
            Check.due("heightAt(0) at " + hour, x.heightAt(0, hour), 12);
        }
    }

    static void promise22Is0FromTheFirstHourOfACurfewToItsLast() {
        int[][] curfews = {{6, 18}, {6, 6}, {18, 18}, {8, 12}, {12, 12}, {6, 17}, {7, 18}};
        for (int[] curfew : curfews) {
            ShadowRegistry x = Check.taught(Stage.STREET);
            x.setCurfew(0, curfew[0], curfew[1]);
            for (int hour = 0; hour < 24; hour++) {
                Check.due("heightAt(0) at " + hour + " in a curfew from " + curfew[0] + " to " + curfew[1],
                    x.heightAt(0, hour), hour >= curfew[0] && hour <= curfew[1] ? 0 : 12);
                Check.due("heightAt of another one", x.heightAt(1, hour), 2);
            }
        }
    }

    // ---- Promise 23: shadowOf

    static void promise23TakesTheHousesThatAreThere() {
        Check.takesHouses("shadowOf", (x, house) -> x.shadowOf(house, 6));
    }

    static void promise23TakesTheHours0To23() {
        Check.takesHours("shadowOf", (x, hour) -> x.shadowOf(0, hour));
    }

    static void promise23NoHouseAtNoHourIsRefused() {
        Check.refused("shadowOf(-1, 24)", Check.INDEX, Stage::midway, x -> x.shadowOf(-1, 24));
        Check.refused("shadowOf(3, -1)", Check.INDEX, Stage::midway, x -> x.shadowOf(3, -1));
    }

    static void promise23Is0WithoutLight() {
        ShadowRegistry x = Check.taught("house a at 10 high 30;");
        for (int hour = 0; hour < 24; hour++) {
            Check.due("shadowOf(0) without light at " + hour, x.shadowOf(0, hour) == 0,
                hour < 6 || hour > 18 || hour == 12);
        }
    }

    static void promise23IsHalfTheHeightTimesTheStepsCut() {
        int[][] due = {
            {3, 2, 2, 1, 1, 0, 0, 0, 1, 1, 2, 2, 3},
            {36, 30, 24, 18, 12, 6, 0, 6, 12, 18, 24, 30, 36},
            {90, 75, 60, 45, 30, 15, 0, 15, 30, 45, 60, 75, 90},
            {0, 0, 0, 0, 0, 0, 0, 0, 0, 0, 0, 0, 0}};
        ShadowRegistry x = Check.taught("house a at 99 high 1; house b at 0 high 12; house c at 1 high 30;"
            + "house d at 2 high 0;");
        for (int house = 0; house < 4; house++) {
            for (int hour = 6; hour <= 18; hour++) {
                Check.due("shadowOf " + house + " at " + hour, x.shadowOf(house, hour), due[house][hour - 6]);
            }
        }
    }

    static void promise23Is0InACurfew() {
        ShadowRegistry x = Check.taught(Stage.STREET);
        x.setCurfew(0, 7, 8);
        Check.due("shadowOf(0, 6)", x.shadowOf(0, 6), 36);
        Check.due("shadowOf(0, 7)", x.shadowOf(0, 7), 0);
        Check.due("shadowOf(0, 8)", x.shadowOf(0, 8), 0);
        Check.due("shadowOf(0, 9)", x.shadowOf(0, 9), 18);
    }

    // ---- Promise 24: shades

    static void promise24TakesTheHousesThatAreThere() {
        Check.takesHouses("shades, first", (x, house) -> x.shades(house, 0, 6) ? 1 : 0);
        Check.takesHouses("shades, second", (x, house) -> x.shades(0, house, 6) ? 1 : 0);
    }

    static void promise24TheSameHouseTwiceHasToBeThere() {
        Check.takesHouses("shades, both", (x, house) -> x.shades(house, house, 6) ? 1 : 0);
    }

    static void promise24TakesTheHours0To23() {
        Check.takesHours("shades", (x, hour) -> x.shades(0, 1, hour) ? 1 : 0);
        Check.takesHours("shades of the same", (x, hour) -> x.shades(1, 1, hour) ? 1 : 0);
    }

    static void promise24IsFalseForTheSame() {
        ShadowRegistry x = Check.taught("house a at 10 high 30;");
        x.setCurfew(0, 6, 11);
        for (int hour = 0; hour < 24; hour++) {
            Check.due("shades(0, 0) at " + hour, x.shades(0, 0, hour), false);
        }
    }

    static void promise24TellsOfEachHour() {
        ShadowRegistry x = Check.taught(Stage.STREET);
        for (int hour = 0; hour < 24; hour++) {
            Check.due("shades(0, 1) at " + hour, x.shades(0, 1, hour), hour >= 13 && hour <= 18);
            Check.due("shades(0, 2) at " + hour, x.shades(0, 2, hour), hour >= 16 && hour <= 18);
            Check.due("shades(1, 0) at " + hour, x.shades(1, 0, hour), false);
        }
    }

    // ---- Promise 25: isInTheDark

    static void promise25TakesTheHousesThatAreThere() {
        Check.takesHouses("isInTheDark", (x, house) -> x.isInTheDark(house, 6) ? 1 : 0);
    }

    static void promise25TakesTheHours0To23() {
        Check.takesHours("isInTheDark", (x, hour) -> x.isInTheDark(1, hour) ? 1 : 0);
    }

    static void promise25NoHouseAtNoHourIsRefused() {
        Check.refused("isInTheDark(-1, 24)", Check.INDEX, Stage::midway, x -> x.isInTheDark(-1, 24) ? 1 : 0);
        Check.refused("isInTheDark(3, -1)", Check.INDEX, Stage::midway, x -> x.isInTheDark(3, -1) ? 1 : 0);
    }

    static void promise25TellsOfEachHour() {
        ShadowRegistry x = Check.taught(Stage.STREET);
        for (int hour = 0; hour < 24; hour++) {
            Check.due("isInTheDark(0) at " + hour, x.isInTheDark(0, hour), false);
            Check.due("isInTheDark(1) at " + hour, x.isInTheDark(1, hour), hour >= 13 && hour <= 18);
            Check.due("isInTheDark(2) at " + hour, x.isInTheDark(2, hour), hour >= 16 && hour <= 18);
        }
    }

    static void promise25IsFalseForAHouseAlone() {
        ShadowRegistry x = Check.taught("house a at 10 high 30;");
        for (int hour = 0; hour < 24; hour++) {
            Check.due("isInTheDark(0) at " + hour, x.isInTheDark(0, hour), false);
        }
    }

    // ---- Promise 26: shadedBy

    /** b is in the dark at 13 to 18, and all twelve houses stand there. */
    private static ShadowRegistry darkTwelve() {
        StringBuilder text = new StringBuilder();
        for (int house = 0; house < 12; house++) {
            text.append("house h").append(house).append(" at ").append(house).append(" high 0;");
        }
        ShadowRegistry x = Check.taught(text.toString());
        x.move(0, 50);
        x.build(0, 30);
        x.move(11, 49);
        x.build(11, 29);
        return x;
    }

    private static ShadowRegistry street() {
        return Check.taught(Stage.STREET);
    }

    static void promise26TakesTheHousesThatAreThere() {
        // to the west of both walls: each low house is in the dark at 6, but for 0 and 11 themselves
        for (int house = 1; house < 11; house++) {
            Check.due("shadedBy of " + house, darkTwelve().shadedBy(house, 6), 11);
        }
        for (int house : new int[] {-1, 12, 13, 256, 257, 65537, Integer.MIN_VALUE, Integer.MIN_VALUE + 1,
            Integer.MAX_VALUE}) {
            Check.refused("shadedBy of " + house, Check.INDEX, HourPromisesTest::darkTwelve, x -> x.shadedBy(house, 6));
        }
        Check.refused("shadedBy without houses", Check.INDEX, Stage::none, x -> x.shadedBy(0, 6));
    }

    static void promise26TakesTheHoursOfTheDark() {
        for (int hour = 13; hour <= 18; hour++) {
            Check.due("shadedBy(1) at " + hour, street().shadedBy(1, hour), 0);
        }
    }

    static void promise26RefusesHoursThatAreNone() {
        for (int hour : new int[] {-1, 24, 25, 13 + 32, 18 + 32, 13 - 32, 13 + 256, 13 + 65536, Integer.MIN_VALUE,
            Integer.MIN_VALUE + 13, Integer.MAX_VALUE}) {
            Check.refused("shadedBy(1) at " + hour, Check.INDEX, HourPromisesTest::street, x -> x.shadedBy(1, hour));
        }
    }

    static void promise26RefusesHoursAtWhichItIsNotInTheDark() {
        for (int hour = 0; hour <= 23; hour++) {
            int light = hour;
            if (hour < 13 || hour > 18) {
                Check.refused("shadedBy(1) at " + hour, Check.STATE, HourPromisesTest::street,
                    x -> x.shadedBy(1, light));
            }
            Check.refused("shadedBy(0) at " + hour, Check.STATE, HourPromisesTest::street, x -> x.shadedBy(0, light));
        }
        // c loses 16 to 18 alone
        Check.refused("shadedBy(2, 15)", Check.STATE, HourPromisesTest::street, x -> x.shadedBy(2, 15));
        Check.due("shadedBy(2, 16)", street().shadedBy(2, 16), 0);
    }

    static void promise26OfBothExceptionsTheFirstIsThrown() {
        Check.refused("shadedBy(0, 24), never in the dark", Check.INDEX, Stage::one, x -> x.shadedBy(0, 24));
        Check.refused("shadedBy(0, -1), never in the dark", Check.INDEX, Stage::one, x -> x.shadedBy(0, -1));
        Check.refused("shadedBy(1, 12), no such house", Check.INDEX, Stage::one, x -> x.shadedBy(1, 12));
        Check.refused("shadedBy(-1, 5), no such house", Check.INDEX, Stage::one, x -> x.shadedBy(-1, 5));
    }

    static void promise26OfSeveralIsTheNearest() {
        ShadowRegistry x = Check.taught("house a at 10 high 12; house b at 14 high 2; house c at 15 high 0;"
            + "house d at 11 high 12;");
        Check.due("shadedBy(2, 18) of a, b and d", x.shadedBy(2, 18), 1);
        Check.due("shadedBy(1, 18) of a and d", x.shadedBy(1, 18), 3);
        x.setCurfew(3, 13, 13);
        Check.due("shadedBy(1, 13) in a curfew of the nearest", x.shadedBy(1, 13), 0);
        x.move(0, 13);
        Check.due("shadedBy(1, 18) with a nearer than d", x.shadedBy(1, 18), 0);
    }

    static void promise26OfSeveralInTheEastIsTheNearest() {
        ShadowRegistry x = Check.taught("house a at 20 high 12; house b at 19 high 12; house c at 15 high 0;");
        Check.due("shadedBy(2, 6)", x.shadedBy(2, 6), 1);
        x.move(1, 21);
        Check.due("shadedBy(2, 6)", x.shadedBy(2, 6), 0);
    }

    static void promise26ANearerHouseThatDoesNotShadeItDoesNotCount() {
        // d stands next to c, but in the east of it
        ShadowRegistry x = Check.taught(Stage.STREET + "house d at 31 high 30;");
        Check.due("shadedBy(2, 18)", x.shadedBy(2, 18), 0);
        Check.due("shadedBy(2, 6)", x.shadedBy(2, 6), 3);
    }

    static void promise26OverTheWholeStreet() {
        // 87 places away the shadow of 18 is (180 - 174) / 6 = 1 high, 88 away it is 0
        ShadowRegistry x = Check.taught("house a at 0 high 30; house b at 87 high 0;");
        Check.due("shadedBy(1, 18)", x.shadedBy(1, 18), 0);
        x.move(1, 88);
        Check.due("isInTheDark(1, 18) a place further away", x.isInTheDark(1, 18), false);
    }

    // ---- Promise 27: housesInTheDark

    static void promise27TakesTheHours0To23() {
        Check.takesHours("housesInTheDark", (x, hour) -> x.housesInTheDark(hour));
        Check.takes("housesInTheDark without houses, hour", 0, 23, Check.INDEX, Stage::none,
            (x, hour) -> x.housesInTheDark(hour));
    }

    static void promise27CountsHousesAtEachHour() {
        ShadowRegistry x = street();
        for (int hour = 0; hour < 24; hour++) {
            int due = hour < 13 || hour > 18 ? 0 : hour < 16 ? 1 : 2;
            Check.due("housesInTheDark at " + hour, x.housesInTheDark(hour), due);
        }
    }

    static void promise27CountsTheFirstAndTheLastHouse() {
        ShadowRegistry x = Check.taught("house a at 10 high 0; house b at 11 high 30; house c at 12 high 0;");
        Check.due("housesInTheDark(6)", x.housesInTheDark(6), 1);
        Check.due("isInTheDark(0, 6)", x.isInTheDark(0, 6), true);
        Check.due("housesInTheDark(18)", x.housesInTheDark(18), 1);
        Check.due("isInTheDark(2, 18)", x.isInTheDark(2, 18), true);
    }

    static void promise27CountsAHouseInSeveralShadowsOnce() {
        ShadowRegistry x = Check.taught("house a at 50 high 30; house b at 49 high 30; house c at 51 high 0;");
        Check.due("housesInTheDark(18)", x.housesInTheDark(18), 1);
    }

    static void promise27OfAFullStreet() {
        ShadowRegistry x = darkTwelve();
        Check.due("housesInTheDark(6)", x.housesInTheDark(6), 10);
        Check.due("housesInTheDark(12)", x.housesInTheDark(12), 0);
        // 11 is 29 high at 49, and 0 is 30 high at 50: none of them is higher at the other than its wall
        Check.due("housesInTheDark(18)", x.housesInTheDark(18), 0);
    }
}
