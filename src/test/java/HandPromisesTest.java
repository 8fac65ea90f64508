/** Promises 28 to 31: what is done by hand. */
public final class HandPromisesTest {
    public static void main(String[] args) {
        Check.runAll(HandPromisesTest.class);
    }

    private static ShadowRegistry street() {
        return Check.taught(Stage.STREET);
    }

    // ---- Promise 28: setCurfew

    static void promise28TakesTheHousesThatAreThere() {
        Check.takesHouses("setCurfew", (x, house) -> x.setCurfew(house, 6, 18));
    }

    static void promise28TakesFirstHoursFrom6ToTheLastOne() {
        for (int to = 6; to <= 18; to++) {
            int last = to;
            Check.takes("setCurfew to " + to + ", from", 6, to, Check.ARGUMENT, Stage::midway,
                (x, from) -> x.setCurfew(1, from, last));
        }
    }

    static void promise28TakesLastHoursFromTheFirstOneTo18() {
        for (int from = 6; from <= 18; from++) {
            int first = from;
            Check.takes("setCurfew from " + from + ", to", from, 18, Check.ARGUMENT, Stage::midway,
                (x, to) -> x.setCurfew(1, first, to));
        }
    }

    static void promise28RefusesBothHoursOutsideOfTheLight() {
        int[][] refused = {{5, 5}, {5, 18}, {5, 19}, {6, 19}, {19, 19}, {19, 18}, {0, 23}, {-1, -1}, {18, 6},
            {Integer.MIN_VALUE, Integer.MAX_VALUE}, {Integer.MAX_VALUE, Integer.MIN_VALUE},
            {Integer.MIN_VALUE, Integer.MIN_VALUE}, {Integer.MAX_VALUE, Integer.MAX_VALUE}};
        for (int[] hours : refused) {
            Check.refused("setCurfew from " + hours[0] + " to " + hours[1], Check.ARGUMENT, Stage::midway,
                x -> x.setCurfew(2, hours[0], hours[1]));
        }
    }

    static void promise28OfBothExceptionsTheFirstIsThrown() {
        int[][] wrong = {{5, 18}, {6, 19}, {8, 7}, {Integer.MIN_VALUE, Integer.MAX_VALUE}};
        for (int[] hours : wrong) {
            Check.refused("setCurfew(-1) with wrong hours", Check.INDEX, Stage::midway,
                x -> x.setCurfew(-1, hours[0], hours[1]));
            Check.refused("setCurfew(3) with wrong hours", Check.INDEX, Stage::midway,
                x -> x.setCurfew(3, hours[0], hours[1]));
            Check.refused("setCurfew(0) without houses and with wrong hours", Check.INDEX, Stage::none,
                x -> x.setCurfew(0, hours[0], hours[1]));
        }
    }

    static void promise28KeepsEachCurfewThatItTakes() {
        for (int from = 6; from <= 18; from++) {
            for (int to = from; to <= 18; to++) {
                ShadowRegistry x = street();
                x.setCurfew(1, from, to);
                Check.due("curfewFrom(1)", x.curfewFrom(1), from);
                Check.due("curfewTo(1)", x.curfewTo(1), to);
            }
        }
    }

    static void promise28StandsInThePlaceOfAnotherOne() {
        ShadowRegistry x = street();
        x.setCurfew(0, 18, 18);
        x.setCurfew(0, 6, 12);
        Check.due("curfewFrom(0)", x.curfewFrom(0), 6);
        Check.due("curfewTo(0)", x.curfewTo(0), 12);
        Check.due("heightAt(0, 18)", x.heightAt(0, 18), 12);
        Check.due("hasCurfew(1)", x.hasCurfew(1), false);
    }

    static void promise28AnswersAllHoursLostThen() {
        ShadowRegistry x = street();
        Check.due("setCurfew(0, 18, 18)", x.setCurfew(0, 18, 18), 7);
        Check.due("setCurfew(0, 6, 12)", x.setCurfew(0, 6, 12), 9);
        Check.due("setCurfew(0, 6, 18)", x.setCurfew(0, 6, 18), 0);
        Check.due("allHoursLost()", x.allHoursLost(), 0);
        Check.due("setCurfew(0, 6, 18) again", x.setCurfew(0, 6, 18), 0);
        Check.due("setCurfew(0, 16, 18)", x.setCurfew(0, 16, 18), 3);
    }

    static void promise28ALowWallLosesHoursAsWell() {
        // b, 12 high, shades a, whose wall is low, from 6 to 11, and c from 15 to 18
        ShadowRegistry x = street();
        x.build(1, 12);
        Check.due("setCurfew(0, 6, 18)", x.setCurfew(0, 6, 18), 10);
        Check.due("setCurfew(0, 9, 11)", x.setCurfew(0, 9, 11), 7);
    }

    // ---- Promise 29: endCurfew

    static void promise29TakesTheHousesThatAreThere() {
        Check.takesHouses("endCurfew", (x, house) -> x.endCurfew(house));
    }

    static void promise29IsRefusedWithoutACurfew() {
        Check.refused("endCurfew(0)", Check.STATE, Stage::midway, x -> x.endCurfew(0));
        Check.refused("endCurfew(1)", Check.STATE, Stage::midway, x -> x.endCurfew(1));
        // c, in no shadow of 15 without its curfew, loses 16 to 18, and b 13 to 18
        Check.due("endCurfew(2), which has one", Stage.midway().endCurfew(2), 9);
    }

    static void promise29IsRefusedTheSecondTime() {
        Check.refused("endCurfew(2) twice", Check.STATE, HandPromisesTest::ended, x -> x.endCurfew(2));
    }

    private static ShadowRegistry ended() {
        ShadowRegistry x = Stage.midway();
        x.endCurfew(2);
        return x;
    }

    static void promise29AnswersAllHoursLostThen() {
        ShadowRegistry x = street();
        x.setCurfew(0, 13, 18);
        Check.due("endCurfew(0)", x.endCurfew(0), 9);
        Check.due("allHoursLost()", x.allHoursLost(), 9);
        Check.due("hasCurfew(0)", x.hasCurfew(0), false);
        Check.due("heightAt(0, 13)", x.heightAt(0, 13), 12);
    }

    static void promise29EndsTheCurfewOfOneWallAlone() {
        ShadowRegistry x = Stage.full();
        x.endCurfew(5);
        for (int house = 0; house < 12; house++) {
            Check.due("hasCurfew " + house, x.hasCurfew(house), house != 5);
        }
    }

    // ---- Promise 30: build

    static void promise30TakesTheHousesThatAreThere() {
        Check.takesHouses("build", (x, house) -> x.build(house, 7));
    }

    static void promise30TakesHeightsFrom0To30() {
        Check.takes("build, height", 0, 30, Check.ARGUMENT, Stage::midway, (x, height) -> x.build(1, height));
    }

    static void promise30OfBothExceptionsTheFirstIsThrown() {
        for (int height : new int[] {-1, 31, Integer.MIN_VALUE, Integer.MAX_VALUE}) {
            Check.refused("build(-1) of " + height, Check.INDEX, Stage::midway, x -> x.build(-1, height));
            Check.refused("build(3) of " + height, Check.INDEX, Stage::midway, x -> x.build(3, height));
            Check.refused("build(0) without houses of " + height, Check.INDEX, Stage::none, x -> x.build(0, height));
        }
    }

    static void promise30AnswersTheHeightOfBefore() {
        ShadowRegistry x = street();
        int before = 12;
        for (int height : new int[] {30, 0, 0, 1, 29, 30, 30, 12}) {
            Check.due("build(0, " + height + ")", x.build(0, height), before);
            Check.due("heightOf(0)", x.heightOf(0), height);
            before = height;
        }
    }

    static void promise30ChangesTheShadows() {
        ShadowRegistry x = street();
        x.build(0, 0);
        Check.due("allHoursLost() without a wall", x.allHoursLost(), 0);
        x.build(0, 12);
        Check.due("allHoursLost() as before", x.allHoursLost(), 9);
        x.build(1, 10);
        // a's shadow at b is (12 s - 8) / s high: 10 at 17 and 18, less ahead of them
        Check.due("hoursLost(1) of a higher house", x.hoursLost(1), 0);
        x.build(1, 9);
        Check.due("hoursLost(1) of one less", x.hoursLost(1), 3);
    }

    static void promise30LeavesTheCurfew() {
        ShadowRegistry x = Stage.midway();
        x.build(2, 30);
        Check.due("curfewFrom(2)", x.curfewFrom(2), 9);
        Check.due("heightAt(2, 9)", x.heightAt(2, 9), 0);
        Check.due("heightAt(2, 8)", x.heightAt(2, 8), 30);
    }

    // ---- Promise 31: move

    static void promise31TakesTheHousesThatAreThere() {
        Check.takesHouses("move", (x, house) -> x.move(house, 55));
    }

    static void promise31TakesPlacesFrom0To99() {
        Check.takes("move, place", 0, 99, Check.ARGUMENT, Stage::one, (x, place) -> x.move(0, place));
    }

    static void promise31IsRefusedWhereAnotherHouseStands() {
        for (int house = 0; house < 12; house++) {
            for (int other = 0; other < 12; other++) {
                int moved = house;
                int taken = 9 * other;
                if (house != other) {
                    Check.refused("move(" + moved + ", " + taken + ")", Check.STATE, Stage::full,
                        x -> x.move(moved, taken));
                }
            }
        }
    }

    static void promise31ToItsOwnPlaceChangesNothing() {
        for (int house = 0; house < 12; house++) {
            int moved = house;
            Check.changesNothing("move to its own place", 9 * house, Stage::full, x -> x.move(moved, 9 * moved));
        }
    }

    static void promise31OfTheFirstTwoExceptionsTheFirstIsThrown() {
        for (int place : new int[] {-1, 100, Integer.MIN_VALUE, Integer.MAX_VALUE}) {
            Check.refused("move(-1) to " + place, Check.INDEX, Stage::midway, x -> x.move(-1, place));
            Check.refused("move(3) to " + place, Check.INDEX, Stage::midway, x -> x.move(3, place));
            Check.refused("move(0) without houses to " + place, Check.INDEX, Stage::none, x -> x.move(0, place));
        }
    }

    static void promise31OfTheFirstAndTheLastExceptionTheFirstIsThrown() {
        Check.refused("move(-1) to a house", Check.INDEX, Stage::midway, x -> x.move(-1, 10));
        Check.refused("move(3) to a house", Check.INDEX, Stage::midway, x -> x.move(3, 14));
    }

    static void promise31ThePlaceOfBeforeIsFree() {
        ShadowRegistry x = street();
        Check.due("move(0, 11)", x.move(0, 11), 10);
        Check.due("move(1, 10) to the free place", x.move(1, 10), 14);
        Check.due("placeOf(1)", x.placeOf(1), 10);
        Check.dueText("move(2, 11)", Check.outcome(() -> x.move(2, 11)), Check.STATE.getName());
    }

    static void promise31AnswersThePlaceOfBefore() {
        ShadowRegistry x = street();
        int before = 30;
        for (int place : new int[] {0, 99, 98, 98, 1, 0, 30}) {
            Check.due("move(2, " + place + ")", x.move(2, place), before);
            Check.due("placeOf(2)", x.placeOf(2), place);
            before = place;
        }
    }

    static void promise31ChangesTheShadows() {
        ShadowRegistry x = street();
        x.move(2, 0);
        // a is 10 away in the east: at 7 its shadow is (60 - 20) / 5 = 8 high, at 11 it does not reach c
        Check.due("hoursLost(2) in the west", x.hoursLost(2), 5);
        x.move(2, 99);
        Check.due("hoursLost(2) far away", x.hoursLost(2), 0);
        x.move(0, 98);
        Check.due("hoursLost(2) behind the moved one", x.hoursLost(2), 6);
        Check.due("hoursLost(1) without it", x.hoursLost(1), 0);
    }

    static void promise31LeavesHeightAndCurfew() {
        ShadowRegistry x = Stage.full();
        x.move(3, 28);
        Check.due("curfewFrom(3)", x.curfewFrom(3), 9);
        Check.due("curfewTo(3)", x.curfewTo(3), 10);
        Check.due("houses()", x.houses(), 12);
    }
}
