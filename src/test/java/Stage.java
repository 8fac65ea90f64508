/** Objects in the midst of their life, the same ones each time: so two of one stage can be compared. */
final class Stage {
    /** Reckoned by hand: b loses 13 to 18 and c loses 16 to 18, both to a; all else is in the light. */
    static final String STREET = "house a at 10 high 12; house b at 14 high 2; house c at 30 high 0;";

    private static final String UNREAD = "house t at 50 high 9; house u at 51 high 0; law raise t by -1;";
    private static final int[] HEIGHTS = {30, 0, 17, 3, 30, 1, 12, 0, 25, 2, 0, 30};

    private Stage() {
    }

    /** No houses and no laws, an error told at 18, and a tape that is not read yet. */
    static ShadowRegistry none() {
        return withTape(new ShadowRegistry());
    }

    /** One house with a curfew, whose hours lost stay 0. */
    static ShadowRegistry one() {
        ShadowRegistry x = Check.taught("house a at 10 high 12; law raise a by 1; law open a when day = 3;");
        x.passDays(1);
        x.setCurfew(0, 7, 9);
        return withTape(x);
    }

    /** STREET with laws behind two days and work by hand: each house could change with the days. */
    static ShadowRegistry midway() {
        ShadowRegistry x = Check.taught(STREET + "law raise a by 1 when day < 9; law curfew b from 7 to 8 when day = 3;"
            + "law open b when day = 4; law raise c by 2 when dark c and cast of a > 5;");
        x.passDays(2);
        x.setCurfew(2, 9, 16);
        x.build(1, 3);
        x.move(2, 28);
        return withTape(x);
    }

    /** Twelve houses, all with curfews, and sixteen laws. */
    static ShadowRegistry full() {
        ShadowRegistry x = Check.taught(twelveHouses() + sixteenLaws());
        x.passDays(3);
        for (int house = 0; house < 12; house++) {
            x.setCurfew(house, 6 + house, 7 + house);
        }
        return withTape(x);
    }

    /** Houses a0 to a11 at the places 0, 9 and so on to 99. */
    static String twelveHouses() {
        StringBuilder text = new StringBuilder();
        for (int house = 0; house < 12; house++) {
            text.append("house a").append(house).append(" at ").append(9 * house);
            text.append(" high ").append(HEIGHTS[house]).append(";");
        }
        return text.toString();
    }

    static int heightOfTwelve(int house) {
        return HEIGHTS[house];
    }

    private static String sixteenLaws() {
        StringBuilder text = new StringBuilder();
        for (int law = 0; law < 16; law++) {
            String order = law % 2 == 0 ? "law raise a" : "law curfew a";
            String sums = law % 2 == 0 ? " by 1" : " from day to 14";
            text.append(order).append(law % 12).append(sums).append(" when day / 2 = ").append(law % 5).append(";");
        }
        return text.toString();
    }

    /** An object without houses whose tape has so many bytes; the last 20 of them tell a house. */
    static ShadowRegistry withBytes(int bytes) {
        ShadowRegistry x = new ShadowRegistry();
        Check.tape(x, padded("house a at 1 high 2;", bytes));
        return x;
    }

    /** Line ends in front of the text, as many as it needs to have this length. */
    static String padded(String text, int length) {
        return repeated("\n", length - text.length()) + text;
    }

    static String repeated(String text, int times) {
        StringBuilder all = new StringBuilder();
        for (int i = 0; i < times; i++) {
            all.append(text);
        }
        return all.toString();
    }

    private static ShadowRegistry withTape(ShadowRegistry x) {
        Check.tape(x, "house q at 1 high 31;");
        x.teach();
        Check.tape(x, UNREAD);
        return x;
    }
}
