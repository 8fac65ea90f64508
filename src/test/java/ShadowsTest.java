/** '2. Shadows': curfews, hours, shadows, and hours that are lost. */
public final class ShadowsTest {
    private static final int LAST_PLACE = 99;

    public static void main(String[] args) {
        Check.runAll(ShadowsTest.class);
    }

    /** a in the west at 0, b in the east so many places away. */
    private static ShadowRegistry pair(int height, int away, int other) {
        return Check.taught("house a at 0 high " + height + "; house b at " + away + " high " + other + ";");
    }

    // ---- Places, heights and curfews

    static void shadowsFallOverAllPlaces() {
        // 90 places are reached at 6 and at 18, but the shadow is 0 high behind 87
        for (int away = 1; away <= LAST_PLACE; away++) {
            ShadowRegistry east = pair(30, away, 0);
            Check.due("shades to the east, " + away + " away", east.shades(0, 1, 18), away <= 87);
            ShadowRegistry west = Check.taught("house a at 99 high 30; house b at " + (99 - away) + " high 0;");
            Check.due("shades to the west, " + away + " away", west.shades(0, 1, 6), away <= 87);
        }
    }

    static void shadowsAreCastByNoWallOf0() {
        ShadowRegistry x = pair(0, 1, 0);
        Check.due("allHoursLost()", x.allHoursLost(), 0);
        Check.due("shadowOf(0, 18)", x.shadowOf(0, 18), 0);
    }

    static void shadowsOfAWallOf1ReachPlacesButNothingIsLowerThere() {
        Check.due("shadowOf(0, 18)", pair(1, 1, 0).shadowOf(0, 18), 3);
        Check.due("allHoursLost() with a wall of 1", pair(1, 1, 0).allHoursLost(), 0);
        Check.due("allHoursLost() with a wall of 2", pair(2, 1, 0).allHoursLost(), 5);
    }

    static void shadowsInACurfewBothOfItsHoursAreLow() {
        for (int from = 13; from <= 18; from++) {
            for (int to = from; to <= 18; to++) {
                ShadowRegistry x = pair(30, 1, 0);
                x.setCurfew(0, from, to);
                for (int hour = 13; hour <= 18; hour++) {
                    Check.due("shades at " + hour + " with a curfew from " + from + " to " + to,
                        x.shades(0, 1, hour), hour < from || hour > to);
                }
            }
        }
    }

    static void shadowsFallOnAWallThatIsLowInItsCurfew() {
        ShadowRegistry x = pair(12, 1, 30);
        Check.due("hoursLost(1) of a high wall", x.hoursLost(1), 0);
        x.setCurfew(1, 14, 15);
        for (int hour = 0; hour < 24; hour++) {
            Check.due("shades at " + hour, x.shades(0, 1, hour), hour == 14 || hour == 15);
        }
    }

    // ---- Hours and steps

    static void shadowsAreCastAtHoursOfLightAlone() {
        ShadowRegistry x = Check.taught("house a at 50 high 30; house b at 51 high 0; house c at 49 high 0;");
        for (int hour = 0; hour < 24; hour++) {
            Check.due("shades to the west at " + hour, x.shades(0, 2, hour), hour >= 6 && hour < 12);
            Check.due("shades to the east at " + hour, x.shades(0, 1, hour), hour > 12 && hour <= 18);
        }
    }

    static void shadowsAreNoneAtNoon() {
        ShadowRegistry x = Check.taught("house a at 50 high 30; house b at 51 high 0; house c at 49 high 0;");
        Check.due("shadowOf(0, 12)", x.shadowOf(0, 12), 0);
        Check.due("housesInTheDark(12)", x.housesInTheDark(12), 0);
        x.setCurfew(1, 12, 12);
        Check.due("isInTheDark(1, 12)", x.isInTheDark(1, 12), false);
    }

    static void shadowsStepsAreHoursFrom12() {
        // a wall of 2 reaches one place for each step
        ShadowRegistry x = pair(2, 50, 0);
        int[] steps = {6, 5, 4, 3, 2, 1, 0, 1, 2, 3, 4, 5, 6};
        for (int hour = 6; hour <= 18; hour++) {
            Check.due("shadowOf(0) at " + hour, x.shadowOf(0, hour), steps[hour - 6]);
        }
    }

    static void shadowsFallToOneSideAlone() {
        ShadowRegistry x = Check.taught("house a at 0 high 0; house b at 1 high 30; house c at 99 high 30;"
            + "house d at 98 high 0;");
        Check.due("hoursLostTo(0, 1) in the west", x.hoursLostTo(0, 1), 6);
        Check.due("shades(1, 0, 11)", x.shades(1, 0, 11), true);
        Check.due("shades(1, 0, 13)", x.shades(1, 0, 13), false);
        Check.due("shades(2, 3, 13)", x.shades(2, 3, 13), false);
        x.move(3, 97);
        x.move(2, 96);
        Check.due("shades(2, 3, 13) to the east", x.shades(2, 3, 13), true);
        Check.due("shades(2, 3, 11) to the east", x.shades(2, 3, 11), false);
    }

    // ---- What a shadow reaches, and how high it is there

    static void shadowsReachAndHeightAreCut() {
        // 3 high at 13: half of 3 reaches 1 place, and (3 - 2) / 1 is 1 there; 2 places away it is not there
        Check.due("shades(0, 1, 13), 1 away", pair(3, 1, 0).shades(0, 1, 13), true);
        Check.due("shades(0, 1, 13), 2 away", pair(3, 2, 0).shades(0, 1, 13), false);
        // 4 high at 18: (24 - 2 * 9) / 6 is 1, (24 - 2 * 10) / 6 is cut to 0, at 12 it ends
        Check.due("shades(0, 1, 18), 9 away", pair(4, 9, 0).shades(0, 1, 18), true);
        Check.due("shades(0, 1, 18), 10 away", pair(4, 10, 0).shades(0, 1, 18), false);
        Check.due("shades(0, 1, 18), 12 away", pair(4, 12, 0).shades(0, 1, 18), false);
        Check.due("shades(0, 1, 18), 13 away", pair(4, 13, 0).shades(0, 1, 18), false);
    }

    static void shadowsAsHighAsTheOtherWallDoNotShadeIt() {
        // at 18 the shadow of 12 is (72 - 8) / 6 = 10 high, 4 places away
        Check.due("shades a wall of 9", pair(12, 4, 9).shades(0, 1, 18), true);
        Check.due("shades a wall of 10", pair(12, 4, 10).shades(0, 1, 18), false);
        Check.due("shades a wall of 11", pair(12, 4, 11).shades(0, 1, 18), false);
    }

    static void shadowsOfAllHeightsOnAllWallsAndPlaces() {
        for (int height = 0; height <= 30; height++) {
            for (int other = 0; other <= 30; other++) {
                ShadowRegistry x = pair(height, 1, other);
                for (int away = 1; away <= LAST_PLACE; away++) {
                    x.move(1, away);
                    Check.due("hoursLostTo, " + height + " on " + other + ", " + away + " away", x.hoursLostTo(1, 0),
                        hoursShaded(height, away, other));
                }
            }
        }
    }

    /** Cut towards 0 or not: it is higher than the other wall if it is at least 1 higher. */
    private static int hoursShaded(int height, int away, int other) {
        int hours = 0;
        for (int steps = 1; steps <= 6; steps++) {
            hours += 2 * away <= (height - other - 1) * steps ? 1 : 0;
        }
        return hours;
    }

    static void shadowsAreNotHinderedByWallsBetween() {
        ShadowRegistry x = Check.taught("house a at 0 high 12; house b at 2 high 30; house c at 4 high 0;");
        x.setCurfew(1, 6, 6);
        Check.due("hoursLostTo(2, 0)", x.hoursLostTo(2, 0), 6);
    }

    // ---- Hours lost and cast

    static void shadowsOfAHouseDoNotFallOnItself() {
        ShadowRegistry x = Check.taught("house a at 50 high 30;");
        x.setCurfew(0, 6, 9);
        Check.due("hoursLost(0)", x.hoursLost(0), 0);
        Check.due("castBy(0)", x.castBy(0), 0);
    }

    static void shadowsOfSeveralCountOnceForTheHouseAndForEachWall() {
        ShadowRegistry x = Check.taught("house a at 50 high 30; house b at 49 high 30; house c at 51 high 0;");
        Check.due("hoursLost(2)", x.hoursLost(2), 6);
        Check.due("hoursLostTo(2, 0)", x.hoursLostTo(2, 0), 6);
        Check.due("hoursLostTo(2, 1)", x.hoursLostTo(2, 1), 6);
        Check.due("castBy(0)", x.castBy(0), 6);
        Check.due("castBy(1)", x.castBy(1), 6);
        Check.due("allHoursLost()", x.allHoursLost(), 6);
    }

    static void shadowsAHouseLosesAtMost12Hours() {
        ShadowRegistry x = Check.taught("house a at 50 high 0; house b at 49 high 30; house c at 51 high 30;");
        Check.due("hoursLost(0)", x.hoursLost(0), 12);
        Check.due("isInTheDark(0, 12)", x.isInTheDark(0, 12), false);
    }

    static void shadowsTheWorstHouseOfSeveralIsTheSmallestNumber() {
        ShadowRegistry x = Check.taught("house a at 50 high 9; house b at 49 high 0; house c at 51 high 0;");
        Check.due("hoursLost(1)", x.hoursLost(1), x.hoursLost(2));
        Check.due("worstHouse()", x.worstHouse(), 1);
    }
}
