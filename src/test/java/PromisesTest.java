/** One method for each promise of the document: ordinary calls, the edges that it names, and wrong ones. */
public final class PromisesTest {
    private static final Class<IllegalStateException> STATE = IllegalStateException.class;
    private static final Class<IllegalArgumentException> ARGUMENT = IllegalArgumentException.class;
    private static final Class<IndexOutOfBoundsException> INDEX = IndexOutOfBoundsException.class;

    /** Reckoned by hand: b loses 13 to 18 and c loses 16 to 18, both to a; all else is in the light. */
    private static final String STREET = "house a at 10 high 12; house b at 14 high 2; house c at 30 high 0;";
    /** East of STREET's like: b loses 6 to 11 to a at a smaller distance, c loses 6 to 8. */
    private static final String MIRRORED = "house a at 89 high 12; house b at 85 high 2; house c at 69 high 0;";

    private static final int[] NO_HOUSES = {-1, 3, 12, Integer.MIN_VALUE, Integer.MAX_VALUE};
    private static final int[] NO_HOURS = {-1, 24, Integer.MIN_VALUE, Integer.MAX_VALUE};

    public static void main(String[] args) {
        promise1();
        promise2();
        promise3();
        promise4();
        promise5();
        promises6To9();
        promises10And11();
        promises12And13();
        promises14To17();
        promises18To20();
        promise21();
        promise22();
        promise23();
        promise24();
        promise25();
        promise26();
        promise27();
        promise28();
        promise29();
        promise30();
        promise31();
        promise32();
        promise33();
        promise34();
        promise35();
        promise36();
        promise37();
        promise38();
        Check.end("PromisesTest");
    }

    private static void promise1() {
        ShadowRegistry x = new ShadowRegistry();
        Check.due("houses() of a new object", x.houses(), 0);
        Check.due("laws() of a new object", x.laws(), 0);
        Check.due("days() of a new object", x.days(), 0);
        Check.due("lawsCarriedOut() of a new object", x.lawsCarriedOut(), 0);
        Check.due("errorAt() of a new object", x.errorAt(), -1);
        Check.due("passDays(30) of a new object", x.passDays(30), 0);
        Check.due("days() behind them", x.days(), 30);
        Check.due("trim(0) of a new object", x.trim(0), 0);
        Check.raises("trim(1) of a new object", ARGUMENT, x, () -> x.trim(1));
        Check.raises("placeOf(0) of a new object", INDEX, x, () -> x.placeOf(0));
        Check.due("teach() of the empty tape", x.teach(), 0);
    }

    private static void promise2() {
        ShadowRegistry x = new ShadowRegistry();
        // "house a at 1 high 2;", the highest byte of each number first
        Check.due("feed", x.feed(0x686f7573, 0x65206120, 0x61742031, 0x20686967, 0x6820323b), 20);
        Check.due("teach()", x.teach(), 0);
        Check.due("placeOf(0)", x.placeOf(0), 1);
        Check.due("heightOf(0)", x.heightOf(0), 2);
        for (int i = 1; i <= 100; i++) {
            Check.due("feed " + i, x.feed(-1, 0, Integer.MIN_VALUE, Integer.MAX_VALUE, 1), 20 * i);
        }
        Check.raises("feed of a full tape", STATE, x, () -> x.feed(0, 0, 0, 0, 0));
        Check.due("trim(1981)", x.trim(1981), 1981);
        Check.raises("feed with 1981 bytes", STATE, x, () -> x.feed(0, 0, 0, 0, 0));
        Check.due("trim(1981) again: nothing was put", x.trim(1981), 1981);
        Check.raises("trim(1982)", ARGUMENT, x, () -> x.trim(1982));
        Check.due("trim(1980)", x.trim(1980), 1980);
        Check.due("feed with 1980 bytes", x.feed(0, 0, 0, 0, 0), 2000);
    }

    private static void promise3() {
        ShadowRegistry x = new ShadowRegistry();
        Check.tape(x, "house a at 1 high 2; house");
        Check.raises("trim(27)", ARGUMENT, x, () -> x.trim(27));
        Check.raises("trim(-1)", ARGUMENT, x, () -> x.trim(-1));
        Check.raises("trim of the smallest number", ARGUMENT, x, () -> x.trim(Integer.MIN_VALUE));
        Check.raises("trim of the greatest number", ARGUMENT, x, () -> x.trim(Integer.MAX_VALUE));
        Check.due("trim(26)", x.trim(26), 26);
        Check.due("trim(20)", x.trim(20), 20);
        Check.due("feed behind trim(20)", x.feed(0x20202020, 0x20202020, 0x20202020, 0x20202020, 0x20202020), 40);
        Check.due("teach()", x.teach(), 0);
        Check.due("houses()", x.houses(), 1);
        Check.raises("trim(1) behind teach()", ARGUMENT, x, () -> x.trim(1));
    }

    private static void promise4() {
        ShadowRegistry x = Check.taught(STREET + "law curfew a from 7 to 8; law raise c by 1;");
        x.passDays(2);
        x.build(1, 9);
        x.setCurfew(2, 6, 18);
        long before = x.digest();
        Check.tape(x, "house d at 1 high 31;");
        Check.due("teach() with an error", x.teach(), 5);
        Check.due("digest() behind an error", x.digest(), before);
        Check.due("the tape behind an error is empty", x.trim(0), 0);
        Check.raises("trim(1) behind an error", ARGUMENT, x, () -> x.trim(1));
        Check.due("passDays(1) goes on with the laws that were told before", x.passDays(1), 1);
        Check.due("heightOf(2)", x.heightOf(2), 3);

        Check.tape(x, "house d at 3 high 4; house e at 5 high 6; law raise e by 1;");
        Check.due("teach()", x.teach(), 0);
        Check.due("houses()", x.houses(), 2);
        Check.due("laws()", x.laws(), 1);
        Check.due("days() begins anew", x.days(), 0);
        Check.due("lawsCarriedOut() begins anew", x.lawsCarriedOut(), 0);
        Check.due("hasCurfew(0) begins anew", x.hasCurfew(0), false);
        Check.due("placeOf(1)", x.placeOf(1), 5);
        Check.due("heightOf(1)", x.heightOf(1), 6);
        Check.raises("placeOf(2)", INDEX, x, () -> x.placeOf(2));
        Check.due("passDays(1)", x.passDays(1), 1);
        Check.due("heightOf(1)", x.heightOf(1), 7);

        Check.due("teach() of the empty tape", x.teach(), 0);
        Check.due("houses() without any", x.houses(), 0);
        Check.due("laws() without any", x.laws(), 0);
    }

    private static void promise5() {
        ShadowRegistry x = new ShadowRegistry();
        Check.tape(x, "house a at 1 high 2");
        Check.due("errorAt() ahead of teach()", x.errorAt(), -1);
        Check.due("teach()", x.teach(), 1);
        Check.due("errorAt() of the end", x.errorAt(), 19);
        Check.tape(x, "house a at 1 high 99;");
        Check.due("errorAt() ahead of the next teach()", x.errorAt(), 19);
        Check.due("teach()", x.teach(), 5);
        Check.due("errorAt() of a number", x.errorAt(), 18);
        Check.due("teach() of the empty tape", x.teach(), 0);
        Check.due("errorAt() without an error", x.errorAt(), -1);
    }

    private static void promises6To9() {
        ShadowRegistry x = Check.taught(STREET
            + "law raise a by 1; law raise c by 0; law open b; law curfew b from 8 to 9 when day = 1;");
        Check.due("houses()", x.houses(), 3);
        Check.due("laws()", x.laws(), 4);
        Check.due("days()", x.days(), 0);
        Check.due("lawsCarriedOut()", x.lawsCarriedOut(), 0);
        Check.due("passDays(1)", x.passDays(1), 1);
        Check.due("days()", x.days(), 1);
        Check.due("lawsCarriedOut()", x.lawsCarriedOut(), 1);
        Check.due("passDays(2)", x.passDays(2), 4);
        Check.due("days()", x.days(), 3);
        Check.due("lawsCarriedOut()", x.lawsCarriedOut(), 5);
        x.setCurfew(0, 6, 6);
        x.build(0, 30);
        Check.due("lawsCarriedOut() does not count what is done by hand", x.lawsCarriedOut(), 5);
    }

    private static void promises10And11() {
        ShadowRegistry x = Check.taught(STREET);
        Check.due("allHoursLost()", x.allHoursLost(), 9);
        Check.due("lightHouses()", x.lightHouses(), 1);
        x.build(0, 0);
        Check.due("allHoursLost() without a wall", x.allHoursLost(), 0);
        Check.due("lightHouses() without a wall", x.lightHouses(), 3);
        ShadowRegistry none = new ShadowRegistry();
        Check.due("allHoursLost() without houses", none.allHoursLost(), 0);
        Check.due("lightHouses() without houses", none.lightHouses(), 0);
        ShadowRegistry both = Check.taught("house a at 50 high 30; house b at 49 high 30; house c at 51 high 0;"
            + "house d at 52 high 28;");
        // an hour that a house loses to several others counts once: c loses 13 to 18 to a, and 6 to 11 to d
        Check.due("hoursLost(2)", both.hoursLost(2), 12);
        Check.due("hoursLostTo(2, 0)", both.hoursLostTo(2, 0), 6);
        Check.due("hoursLostTo(2, 1)", both.hoursLostTo(2, 1), 6);
        Check.due("hoursLostTo(2, 3)", both.hoursLostTo(2, 3), 6);
    }

    private static void promises12And13() {
        ShadowRegistry none = new ShadowRegistry();
        Check.raises("worstHouse() without houses", STATE, none, none::worstHouse);
        Check.raises("darkestWall() without houses", STATE, none, none::darkestWall);
        ShadowRegistry x = Check.taught(STREET);
        Check.due("worstHouse()", x.worstHouse(), 1);
        Check.due("darkestWall()", x.darkestWall(), 0);
        x.build(0, 0);
        Check.due("worstHouse() of several", x.worstHouse(), 0);
        Check.due("darkestWall() of several", x.darkestWall(), 0);
        ShadowRegistry last = Check.taught("house a at 1 high 0; house b at 50 high 0; house c at 51 high 9;"
            + "house d at 90 high 9; house e at 91 high 0;");
        Check.due("worstHouse() of b and e", last.worstHouse(), 1);
        Check.due("darkestWall() of c and d", last.darkestWall(), 2);
        last.build(2, 0);
        Check.due("worstHouse()", last.worstHouse(), 4);
        Check.due("darkestWall()", last.darkestWall(), 3);
    }

    private static void promises14To17() {
        ShadowRegistry x = Check.taught(STREET);
        int[] places = {10, 14, 30};
        int[] heights = {12, 2, 0};
        int[] lost = {0, 6, 3};
        int[] casts = {9, 0, 0};
        for (int house = 0; house < 3; house++) {
            Check.due("placeOf " + house, x.placeOf(house), places[house]);
            Check.due("heightOf " + house, x.heightOf(house), heights[house]);
            Check.due("hoursLost " + house, x.hoursLost(house), lost[house]);
            Check.due("castBy " + house, x.castBy(house), casts[house]);
        }
        for (int house : NO_HOUSES) {
            Check.raises("placeOf " + house, INDEX, x, () -> x.placeOf(house));
            Check.raises("heightOf " + house, INDEX, x, () -> x.heightOf(house));
            Check.raises("hoursLost " + house, INDEX, x, () -> x.hoursLost(house));
            Check.raises("castBy " + house, INDEX, x, () -> x.castBy(house));
        }
        x.setCurfew(0, 6, 18);
        Check.due("heightOf(0) is its own one in a curfew", x.heightOf(0), 12);
        ShadowRegistry y = Check.taught(MIRRORED);
        Check.due("hoursLost(1) to the west", y.hoursLost(1), 6);
        Check.due("hoursLost(2) to the west", y.hoursLost(2), 3);
        Check.due("castBy(0) to the west", y.castBy(0), 9);
    }

    private static void promises18To20() {
        ShadowRegistry x = Check.taught(STREET + "law curfew b from 3 to 9;");
        Check.due("hasCurfew(1)", x.hasCurfew(1), false);
        Check.raises("curfewFrom(1) without one", STATE, x, () -> x.curfewFrom(1));
        Check.raises("curfewTo(1) without one", STATE, x, () -> x.curfewTo(1));
        x.passDays(1);
        Check.due("hasCurfew(1)", x.hasCurfew(1), true);
        Check.due("curfewFrom(1)", x.curfewFrom(1), 6);
        Check.due("curfewTo(1)", x.curfewTo(1), 9);
        Check.due("hasCurfew(0)", x.hasCurfew(0), false);
        for (int house : NO_HOUSES) {
            Check.raises("hasCurfew " + house, INDEX, x, () -> x.hasCurfew(house) ? 1 : 0);
            Check.raises("curfewFrom " + house, INDEX, x, () -> x.curfewFrom(house));
            Check.raises("curfewTo " + house, INDEX, x, () -> x.curfewTo(house));
        }
    }

    private static void promise21() {
        ShadowRegistry x = Check.taught(STREET);
        Check.due("hoursLostTo(1, 0)", x.hoursLostTo(1, 0), 6);
        Check.due("hoursLostTo(2, 0)", x.hoursLostTo(2, 0), 3);
        Check.due("hoursLostTo(0, 1)", x.hoursLostTo(0, 1), 0);
        Check.due("hoursLostTo(1, 1)", x.hoursLostTo(1, 1), 0);
        for (int house : NO_HOUSES) {
            Check.raises("hoursLostTo of " + house, INDEX, x, () -> x.hoursLostTo(house, 0));
            Check.raises("hoursLostTo by " + house, INDEX, x, () -> x.hoursLostTo(0, house));
            Check.raises("hoursLostTo by itself " + house, INDEX, x, () -> x.hoursLostTo(house, house));
        }
    }

    private static void promise22() {
        ShadowRegistry x = Check.taught(STREET);
        Check.due("heightAt(0, 0) without light", x.heightAt(0, 0), 12);
        Check.due("heightAt(0, 23) without light", x.heightAt(0, 23), 12);
        x.setCurfew(0, 8, 12);
        Check.due("heightAt(0, 7)", x.heightAt(0, 7), 12);
        Check.due("heightAt(0, 8)", x.heightAt(0, 8), 0);
        Check.due("heightAt(0, 12)", x.heightAt(0, 12), 0);
        Check.due("heightAt(0, 13)", x.heightAt(0, 13), 12);
        Check.due("heightAt(1, 8)", x.heightAt(1, 8), 2);
        wrongHours(x, x::heightAt, "heightAt");
    }

    private static void promise23() {
        ShadowRegistry x = Check.taught("house a at 10 high 7; house b at 14 high 30; house c at 30 high 0;");
        int[] reaches = {0, 0, 0, 0, 0, 0, 21, 17, 14, 10, 7, 3, 0, 3, 7, 10, 14, 17, 21, 0, 0, 0, 0, 0};
        for (int hour = 0; hour < 24; hour++) {
            Check.due("shadowOf(0) at " + hour, x.shadowOf(0, hour), reaches[hour]);
        }
        Check.due("shadowOf(1, 6)", x.shadowOf(1, 6), 90);
        Check.due("shadowOf(2, 6)", x.shadowOf(2, 6), 0);
        x.setCurfew(0, 6, 7);
        Check.due("shadowOf(0, 7) in a curfew", x.shadowOf(0, 7), 0);
        Check.due("shadowOf(0, 8) behind a curfew", x.shadowOf(0, 8), 14);
        wrongHours(x, x::shadowOf, "shadowOf");
    }

    private static void promise24() {
        ShadowRegistry x = Check.taught(STREET);
        for (int hour = 0; hour < 24; hour++) {
            Check.due("shades(0, 1) at " + hour, x.shades(0, 1, hour), hour >= 13 && hour <= 18);
            Check.due("shades(0, 2) at " + hour, x.shades(0, 2, hour), hour >= 16 && hour <= 18);
            Check.due("shades(1, 0) at " + hour, x.shades(1, 0, hour), false);
            Check.due("shades(0, 0) at " + hour, x.shades(0, 0, hour), false);
        }
        ShadowRegistry y = Check.taught(MIRRORED);
        for (int hour = 0; hour < 24; hour++) {
            Check.due("shades(0, 1) to the west at " + hour, y.shades(0, 1, hour), hour >= 6 && hour <= 11);
            Check.due("shades(0, 2) to the west at " + hour, y.shades(0, 2, hour), hour >= 6 && hour <= 8);
        }
        // at 18 the shadow of 12 is at 4 places away (72 - 8) / 6 = 10 high
        x.build(1, 10);
        Check.due("shades(0, 1, 18) when as high", x.shades(0, 1, 18), false);
        x.build(1, 9);
        Check.due("shades(0, 1, 18) when higher", x.shades(0, 1, 18), true);
        x.build(1, 30);
        x.setCurfew(1, 18, 18);
        Check.due("shades(0, 1, 18) with the other wall lowered", x.shades(0, 1, 18), true);
        Check.due("shades(0, 1, 17) with the other wall up", x.shades(0, 1, 17), false);
        for (int house : NO_HOUSES) {
            Check.raises("shades of " + house, INDEX, x, () -> x.shades(house, 0, 6) ? 1 : 0);
            Check.raises("shades on " + house, INDEX, x, () -> x.shades(0, house, 6) ? 1 : 0);
        }
        wrongHours(x, (house, hour) -> x.shades(house, house, hour) ? 1 : 0, "shades");
    }

    private static void promise25() {
        ShadowRegistry x = Check.taught(STREET);
        for (int hour = 0; hour < 24; hour++) {
            Check.due("isInTheDark(1) at " + hour, x.isInTheDark(1, hour), hour >= 13 && hour <= 18);
            Check.due("isInTheDark(2) at " + hour, x.isInTheDark(2, hour), hour >= 16 && hour <= 18);
            Check.due("isInTheDark(0) at " + hour, x.isInTheDark(0, hour), false);
        }
        wrongHours(x, (house, hour) -> x.isInTheDark(house, hour) ? 1 : 0, "isInTheDark");
    }

    private static void promise26() {
        ShadowRegistry x = Check.taught("house a at 10 high 12; house b at 14 high 2; house c at 15 high 0;"
            + "house d at 11 high 12;");
        Check.due("shadedBy(2, 18) of a, b and d", x.shadedBy(2, 18), 1);
        Check.due("shadedBy(1, 18) of a and d", x.shadedBy(1, 18), 3);
        Check.due("shadedBy(1, 13)", x.shadedBy(1, 13), 3);
        x.setCurfew(3, 13, 13);
        Check.due("shadedBy(1, 13) in a curfew of the nearest", x.shadedBy(1, 13), 0);
        Check.raises("shadedBy(1, 12)", STATE, x, () -> x.shadedBy(1, 12));
        Check.raises("shadedBy(1, 5)", STATE, x, () -> x.shadedBy(1, 5));
        Check.raises("shadedBy(1, 19)", STATE, x, () -> x.shadedBy(1, 19));
        Check.raises("shadedBy(0, 18)", STATE, x, () -> x.shadedBy(0, 18));
        wrongHours(Check.taught(STREET), x::shadedBy, "shadedBy", 4);
    }

    private static void promise27() {
        ShadowRegistry x = Check.taught(STREET);
        for (int hour = 0; hour < 24; hour++) {
            int due = hour < 13 || hour > 18 ? 0 : hour < 16 ? 1 : 2;
            Check.due("housesInTheDark at " + hour, x.housesInTheDark(hour), due);
        }
        for (int hour : NO_HOURS) {
            Check.raises("housesInTheDark at " + hour, INDEX, x, () -> x.housesInTheDark(hour));
        }
        Check.due("housesInTheDark(18) without houses", new ShadowRegistry().housesInTheDark(18), 0);
    }

    private static void promise28() {
        ShadowRegistry x = Check.taught(STREET);
        Check.due("setCurfew(0, 18, 18)", x.setCurfew(0, 18, 18), 7);
        Check.due("setCurfew(0, 6, 12)", x.setCurfew(0, 6, 12), 9);
        Check.due("curfewFrom(0) in the place of another one", x.curfewFrom(0), 6);
        Check.due("curfewTo(0) in the place of another one", x.curfewTo(0), 12);
        Check.due("setCurfew(0, 6, 18)", x.setCurfew(0, 6, 18), 0);
        // b shades a, whose wall is low, from 6 to 11, and c from 15 to 18
        x.build(1, 12);
        Check.due("hoursLost(0) in a curfew", x.hoursLost(0), 6);
        Check.due("allHoursLost() in a curfew", x.allHoursLost(), 10);
        Check.due("setCurfew(0, 9, 11)", x.setCurfew(0, 9, 11), 7);
        for (int house : NO_HOUSES) {
            Check.raises("setCurfew of " + house, INDEX, x, () -> x.setCurfew(house, 6, 7));
            Check.raises("setCurfew of " + house + ", wrong hours", INDEX, x, () -> x.setCurfew(house, 7, 6));
        }
        Check.raises("setCurfew(0, 5, 7)", ARGUMENT, x, () -> x.setCurfew(0, 5, 7));
        Check.raises("setCurfew(0, 7, 19)", ARGUMENT, x, () -> x.setCurfew(0, 7, 19));
        Check.raises("setCurfew(0, 8, 7)", ARGUMENT, x, () -> x.setCurfew(0, 8, 7));
        Check.raises("setCurfew(0, 19, 19)", ARGUMENT, x, () -> x.setCurfew(0, 19, 19));
        Check.raises("setCurfew(0, 5, 5)", ARGUMENT, x, () -> x.setCurfew(0, 5, 5));
        Check.raises("setCurfew of extremes", ARGUMENT, x,
            () -> x.setCurfew(0, Integer.MIN_VALUE, Integer.MAX_VALUE));
        Check.raises("setCurfew of extremes, turned", ARGUMENT, x,
            () -> x.setCurfew(0, Integer.MAX_VALUE, Integer.MIN_VALUE));
    }

    private static void promise29() {
        ShadowRegistry x = Check.taught(STREET);
        Check.raises("endCurfew(0) without one", STATE, x, () -> x.endCurfew(0));
        x.setCurfew(0, 13, 18);
        Check.due("allHoursLost()", x.allHoursLost(), 0);
        Check.due("endCurfew(0)", x.endCurfew(0), 9);
        Check.due("hasCurfew(0)", x.hasCurfew(0), false);
        Check.raises("endCurfew(0) twice", STATE, x, () -> x.endCurfew(0));
        for (int house : NO_HOUSES) {
            Check.raises("endCurfew of " + house, INDEX, x, () -> x.endCurfew(house));
        }
    }

    private static void promise30() {
        ShadowRegistry x = Check.taught(STREET);
        Check.due("build(0, 30)", x.build(0, 30), 12);
        Check.due("build(0, 0)", x.build(0, 0), 30);
        Check.due("allHoursLost()", x.allHoursLost(), 0);
        Check.due("build(0, 0) again", x.build(0, 0), 0);
        Check.due("build(0, 12)", x.build(0, 12), 0);
        Check.due("allHoursLost()", x.allHoursLost(), 9);
        Check.raises("build(0, 31)", ARGUMENT, x, () -> x.build(0, 31));
        Check.raises("build(0, -1)", ARGUMENT, x, () -> x.build(0, -1));
        Check.raises("build(0, least)", ARGUMENT, x, () -> x.build(0, Integer.MIN_VALUE));
        for (int house : NO_HOUSES) {
            Check.raises("build of " + house, INDEX, x, () -> x.build(house, 31));
        }
    }

    private static void promise31() {
        ShadowRegistry x = Check.taught(STREET);
        Check.due("move(2, 0)", x.move(2, 0), 30);
        Check.due("placeOf(2)", x.placeOf(2), 0);
        // a is 10 away: at 9 its shadow of 18 is (36 - 20) / 3 = 5 high; b is 14 away, its shadow reaches 6
        Check.due("hoursLost(2)", x.hoursLost(2), 5);
        Check.due("move(2, 99)", x.move(2, 99), 0);
        Check.due("hoursLost(2) far away", x.hoursLost(2), 0);
        Check.due("move to its own place", x.move(2, 99), 99);
        Check.raises("move(2, 10)", STATE, x, () -> x.move(2, 10));
        Check.raises("move(2, 100)", ARGUMENT, x, () -> x.move(2, 100));
        Check.raises("move(2, -1)", ARGUMENT, x, () -> x.move(2, -1));
        for (int house : NO_HOUSES) {
            Check.raises("move of " + house + " to a house", INDEX, x, () -> x.move(house, 10));
            Check.raises("move of " + house + " out of the street", INDEX, x, () -> x.move(house, 100));
        }
        Check.due("move(0, 98)", x.move(0, 98), 10);
        Check.due("hoursLost(2) behind the moved one", x.hoursLost(2), 6);
    }

    private static void promise32() {
        ShadowRegistry x = Check.taught(STREET + "law raise a by -1; law raise c by 2 when height of c < 4;");
        Check.due("passDays(1)", x.passDays(1), 2);
        Check.due("passDays(30)", x.passDays(30), 12);
        Check.due("heightOf(0)", x.heightOf(0), 0);
        Check.due("heightOf(2)", x.heightOf(2), 4);
        Check.due("days()", x.days(), 31);
        wrongDays(x, x::passDays, "passDays");
    }

    private static void promise33() {
        ShadowRegistry x = Check.taught(STREET + "law raise a by -4 when day > 0;");
        long before = x.digest();
        Check.due("lostAfter(1)", x.lostAfter(1), 9);
        // a is 8 high then: b, 4 places away, loses 14 to 18; c, 20 places away, loses 18
        Check.due("lostAfter(2)", x.lostAfter(2), 6);
        Check.due("lostAfter(30)", x.lostAfter(30), 0);
        Check.due("digest()", x.digest(), before);
        x.passDays(1);
        Check.due("lostAfter(1) from the second day on", x.lostAfter(1), 6);
        wrongDays(x, x::lostAfter, "lostAfter");
    }

    private static void promise34() {
        Check.due("daysUntilLight() without houses", new ShadowRegistry().daysUntilLight(), 0);
        String two = "house a at 10 high 30; house b at 11 high 0;";
        Check.due("daysUntilLight() in the light", Check.taught("house a at 10 high 1;").daysUntilLight(), 0);
        Check.due("daysUntilLight() never", Check.taught(two).daysUntilLight(), -1);
        // a wall of 1 shades nobody any more: so it takes 29 laws
        ShadowRegistry x = Check.taught(two + "law raise a by -1 when day > 0; law open b;");
        long before = x.digest();
        Check.due("daysUntilLight() in 30 days", x.daysUntilLight(), 30);
        Check.due("digest()", x.digest(), before);
        x.passDays(1);
        Check.due("daysUntilLight() in 29 days", x.daysUntilLight(), 29);
        ShadowRegistry late = Check.taught(two + "law raise a by -1 when day > 1;");
        Check.due("daysUntilLight() in 31 days", late.daysUntilLight(), -1);
        ShadowRegistry passing = Check.taught(two + "law curfew a from 6 to 18 when day = 3; law open a when day = 4;");
        Check.due("daysUntilLight() for the first time", passing.daysUntilLight(), 4);
    }

    private static void promise35() {
        ShadowRegistry x = Check.taught(STREET);
        x.setCurfew(0, 13, 18);
        long before = x.digest();
        Check.due("fairCurfew(0, 1)", x.fairCurfew(0, 1), 16);
        Check.due("fairCurfew(0, 6)", x.fairCurfew(0, 6), 13);
        Check.due("fairCurfew(0, 13)", x.fairCurfew(0, 13), 6);
        Check.due("fairCurfew(1, 1)", x.fairCurfew(1, 1), 6);
        Check.due("digest()", x.digest(), before);
        ShadowRegistry last = Check.taught("house a at 10 high 6; house b at 25 high 0;");
        Check.due("hoursLost(1)", last.hoursLost(1), 1);
        Check.due("fairCurfew(0, 1): the last hour", last.fairCurfew(0, 1), 18);
        Check.due("fairCurfew(0, 2): the last hours", last.fairCurfew(0, 2), 17);
        for (int hours : new int[] {0, 14, -1, Integer.MIN_VALUE, Integer.MAX_VALUE}) {
            Check.raises("fairCurfew of hours " + hours, ARGUMENT, x, () -> x.fairCurfew(0, hours));
            Check.raises("fairestWall of hours " + hours, ARGUMENT, x, () -> x.fairestWall(hours));
        }
        for (int house : NO_HOUSES) {
            Check.raises("fairCurfew of " + house, INDEX, x, () -> x.fairCurfew(house, 1));
            Check.raises("fairCurfew of " + house + ", wrong hours", INDEX, x, () -> x.fairCurfew(house, 0));
        }
    }

    private static void promise36() {
        Check.due("fairestWall(1) without houses", new ShadowRegistry().fairestWall(1), -1);
        ShadowRegistry x = Check.taught(STREET);
        long before = x.digest();
        Check.due("fairestWall(1)", x.fairestWall(1), 0);
        Check.due("fairestWall(13)", x.fairestWall(13), 0);
        Check.due("digest()", x.digest(), before);
        x.setCurfew(0, 13, 18);
        Check.due("fairestWall(6) when nothing is lost", x.fairestWall(6), -1);
        Check.due("fairestWall(1) when nothing is lost", x.fairestWall(1), -1);
        ShadowRegistry same = Check.taught("house a at 1 high 0; house b at 50 high 0; house c at 51 high 9;"
            + "house d at 90 high 9; house e at 91 high 0;");
        Check.due("fairestWall(6) of c and d", same.fairestWall(6), 2);
        same.build(2, 0);
        Check.due("fairestWall(6)", same.fairestWall(6), 3);
    }

    private static void promise37() {
        Check.due("meanLost() without houses", Double.doubleToLongBits(new ShadowRegistry().meanLost()), 0);
        ShadowRegistry x = Check.taught(STREET);
        Check.due("meanLost()", Double.doubleToLongBits(x.meanLost()), Double.doubleToLongBits(3.0));
        x.setCurfew(0, 18, 18);
        Check.due("meanLost()", Double.doubleToLongBits(x.meanLost()), Double.doubleToLongBits(7.0 / 3.0));
    }

    private static void promise38() {
        long[] none = new long[6 + 13];
        Check.due("digest() without houses", new ShadowRegistry().digest(), digestOf(none));
        ShadowRegistry x = Check.taught(STREET + "law curfew b from 7 to 8;");
        x.passDays(2);
        // b's curfew at 7 and 8 changes no shadow that falls on it then
        long[] due = {3, 1, 2, 1, 9, 1,
            10, 12, -1, -1, 0, 9, 0, 0, 0,
            14, 2, 7, 8, 6, 0, 6, 0, 0,
            30, 0, -1, -1, 3, 0, 3, 0, 0,
            0, 0, 0, 0, 0, 0, 0, 1, 1, 1, 2, 2, 2};
        Check.due("digest()", x.digest(), digestOf(due));
    }

    private static long digestOf(long[] numbers) {
        long d = 1013;
        for (long number : numbers) {
            d = d * 31 + number;
        }
        return d;
    }

    private interface OfHouseAndHour {
        long at(int house, int hour);
    }

    private interface OfDays {
        long behind(int days);
    }

    private static void wrongHours(ShadowRegistry x, OfHouseAndHour call, String name) {
        wrongHours(x, call, name, 3);
    }

    private static void wrongHours(ShadowRegistry x, OfHouseAndHour call, String name, int houses) {
        for (int hour : NO_HOURS) {
            Check.raises(name + " at " + hour, INDEX, x, () -> call.at(0, hour));
            Check.raises(name + " of no house at " + hour, INDEX, x, () -> call.at(-1, hour));
        }
        for (int house : new int[] {-1, houses, 12, Integer.MIN_VALUE, Integer.MAX_VALUE}) {
            Check.raises(name + " of " + house, INDEX, x, () -> call.at(house, 6));
        }
    }

    private static void wrongDays(ShadowRegistry x, OfDays call, String name) {
        for (int days : new int[] {0, 31, -1, Integer.MIN_VALUE, Integer.MAX_VALUE}) {
            Check.raises(name + " of " + days, ARGUMENT, x, () -> call.behind(days));
        }
    }
}
