/** 'Errors' of '1. The language': the errors 1 to 5, which of them is told, and at which position. */
public final class ErrorsTest {
    private static final String A = "house a at 1 high 2;";

    public static void main(String[] args) {
        Check.runAll(ErrorsTest.class);
    }

    // ---- Error 1

    static void error1IsToldAtTheFirstTokenThatCannotGoOn() {
        Check.error(1, "house a at 1 ~house b high;");
        Check.error(1, "~at at at");
        Check.error(1, A + "law open a when 1 < 2 or ~;?");
    }

    static void error1IncludesAByteWithWhichNoTokenBegins() {
        Check.error(1, "~?");
        Check.error(1, A + "~\0");
        Check.error(1, A + "law open a when 1 ~& 2;");
        Check.error(1, A + "law raise a by 1 ~. 5;");
        Check.error(1, A + "law raise a by 1~_;");
        Check.error(1, 20, A + (char) 255);
        Check.error(1, 20, A + (char) 128);
    }

    static void error1IncludesAWordThatIsTooLongAtItsFirstByte() {
        Check.error(1, "house ~abcdefghijk at 1 high 2;");
        Check.error(1, A + "law open a when 1 < 2 ~abcdefghijk");
        Check.good("house abcdefghij at 1 high 2;");
    }

    static void error1IncludesANumberThatIsTooLongAtItsFirstByte() {
        Check.error(1, "house a at ~1234567 high 2;");
        Check.error(1, "house a at 1 high ~0000002;");
        Check.error(5, "house a at ~123456 high 2;");
    }

    static void error1IncludesTheEndOfTheTapeAtItsLength() {
        Check.error(1, "house~");
        Check.error(1, "house a at 1 high 2~");
        Check.error(1, "house a at 1 high 2  \n ~");
        Check.error(1, A + "law open a when~");
        Check.error(1, A + "law open a when (1~");
        Check.error(1, A + "law raise a by min(1,~");
        Check.error(1, 2000, Stage.padded("house a at 1 high 2", 2000));
        Check.error(1, 2000, "house" + Stage.repeated(" ", 1995));
        Check.error(1, 1999, "house" + Stage.repeated("\n", 1994));
    }

    static void error1IncludesADepthOf9() {
        Check.error(1, A + "law raise a by ((((((((~(1)))))))));");
        Check.error(1, A + "law open a when [[[[[[[[~[dark a]]]]]]]]];");
        Check.error(1, A + "law raise a by --------~-1;");
        Check.error(1, A + "law open a when not not not not not not not not ~not dark a;");
    }

    static void error1StandsAtADepthOf9EvenIfNothingGoodFollows() {
        Check.error(1, A + "law raise a by ((((((((~(");
        Check.error(1, A + "law open a when [[[[[[[[~[?");
    }

    /** 13 tokens and those of the sum: 399 in all, so that the 400th comes next. */
    private static String tokens399() {
        return A + "law raise a by -1" + Stage.repeated("+1", 193);
    }

    static void error1Takes400Tokens() {
        Check.good(tokens399() + ";");
        Check.good(tokens399() + ";  \n");
        Check.good(A + Stage.repeated("law raise a by 1 when 1<2;", 15)
            + "law curfew a from 1 to 2 when [not[1=1]]and 1<2" + Stage.repeated("+1", 100) + ";");
    }

    static void error1IncludesThe401stToken() {
        Check.error(1, tokens399() + ";~;");
        Check.error(1, tokens399() + "; ~house b at 2 high 2;");
        Check.error(1, tokens399() + ";\n~law open a;");
        Check.error(1, tokens399() + "+~1;");
        Check.error(1, tokens399() + ";~?");
        Check.error(1, tokens399() + ";~abcdefghijklmn");
    }

    static void error1DoesNotCountTheEndOfTheTapeAsAToken() {
        Check.good(tokens399() + ";");
        Check.error(1, tokens399() + "+~");
        Check.error(1, tokens399() + "+  ~");
        Check.error(1, tokens399() + "~");
    }

    static void error1AheadOfThe401stTokenIsToldThere() {
        Check.error(1, A + "~;" + Stage.repeated(";", 500));
        Check.error(1, tokens399() + "~);;;");
    }

    // ---- Errors 2 to 5

    static void error2IsTheNameOfAHouseToldAhead() {
        Check.error(2, A + "house ~a at 2 high 3;");
        Check.error(2, A + "house b at 2 high 3; house ~b at 3 high 3;");
        Check.error(2, A + "house b at 2 high 3; law open a; house ~a at 3 high 3;");
        Check.good(A + "house aa at 2 high 3; house a1 at 3 high 3;");
    }

    static void error3IsAnotherNameThatIsNotThatOfAHouseToldAhead() {
        Check.error(3, A + "law open ~b; house b at 3 high 4;");
        Check.error(3, "law open ~a;" + A);
        Check.error(3, A + "law raise ~b by 1;");
        Check.error(3, A + "law raise a by height of ~b;");
        Check.error(3, A + "law raise a by lost of ~b;");
        Check.error(3, A + "law curfew ~b from lost of c to 1;");
        Check.error(3, A + "law curfew a from lost of ~b to 1;");
        Check.error(3, A + "law curfew a from 1 to cast of ~b;");
        Check.error(3, A + "law open a when shades ~b c;");
        Check.error(3, A + "law open a when shades a ~b;");
        Check.error(3, A + "law open a when dark ~b;");
        Check.error(3, A + "law open a when 1 < 2 and dark ~aa;");
        Check.good(A + "house b at 3 high 4; law open b when shades a b and lost of b < cast of a;");
    }

    static void error4IsTheNameOfThe13thHouse() {
        Check.good(Stage.twelveHouses());
        Check.error(4, Stage.twelveHouses() + "house ~b at 1 high 2;");
        Check.error(4, Stage.twelveHouses() + "law open a0; house ~b at 1 high 2; house c at 2 high 2;");
    }

    static void error4IsTheLawOfThe17thLaw() {
        String sixteen = A + Stage.repeated("law open a;", 16);
        Check.good(sixteen);
        Check.good(sixteen + "house b at 2 high 3;");
        Check.error(4, sixteen + "~law open a;");
        Check.error(4, sixteen + "house c at 2 high 3; ~law open a;");
    }

    static void error5IsAPlaceGreaterThan99() {
        Check.due("placeOf(0)", Check.taught("house a at 99 high 0;").placeOf(0), 99);
        Check.due("placeOf(0)", Check.taught("house a at 0 high 0;").placeOf(0), 0);
        Check.error(5, "house a at ~100 high 3;");
        Check.error(5, "house a at ~256 high 3;");
        Check.error(5, "house a at ~65536 high 3;");
        Check.error(5, "house a at ~999999 high 3;");
    }

    static void error5IsThePlaceOfAHouseToldAhead() {
        Check.error(5, A + "house b at ~1 high 3;");
        Check.error(5, A + "house b at ~000001 high 3;");
        Check.error(5, "house a at 0 high 2; house b at 99 high 3; house c at ~0 high 3;");
        Check.error(5, "house a at 0 high 2; house b at 99 high 3; house c at ~99 high 3;");
        Check.good("house a at 0 high 2; house b at 99 high 3; house c at 1 high 3; house d at 98 high 3;");
    }

    static void error5IsAHeightGreaterThan30() {
        Check.due("heightOf(0)", Check.taught("house a at 1 high 30;").heightOf(0), 30);
        Check.due("heightOf(0)", Check.taught("house a at 1 high 0;").heightOf(0), 0);
        Check.error(5, "house a at 1 high ~31;");
        Check.error(5, "house a at 1 high ~256;");
        Check.error(5, "house a at 1 high ~65536;");
        Check.error(5, "house a at 1 high ~999999;");
    }

    static void error5DoesNotLimitNumbersInLaws() {
        Check.good(A + "law raise a by 999999 when 100 < 31; law curfew a from 100 to 31;");
    }

    // ---- Which error is told

    static void errorsAreLookedForOnlyWithoutAnError1() {
        Check.error(1, A + A + "~x");
        Check.error(1, "house a at 100 high 31; law open b~");
        Check.error(1, A + "law open b; law open ~;");
        Check.error(1, Stage.twelveHouses() + "house b at 1 high 2;~a");
        Check.error(1, A + Stage.repeated("law open a;", 17) + "~?");
        Check.error(1, A + "house b at 1 high 99999 ~9999999;");
        Check.error(1, Stage.repeated("house a at 1 high 99;", 57) + "house ~a");
    }

    static void errorsAreToldFromLeftToRight() {
        Check.error(2, A + "house ~a at 200 high 99;");
        Check.error(5, A + "house b at ~1 high 99;");
        Check.error(5, A + "house b at ~100 high 99;");
        Check.error(5, "house a at ~100 high 31; house a at 1 high 2; law open b;");
        Check.error(5, A + "house b at 2 high ~31; house a at 1 high 2;");
        Check.error(3, A + "law open ~b; house a at 1 high 2;");
        Check.error(3, A + "law raise ~b by lost of c when dark d;");
        Check.error(5, A + "house b at ~1 high 2; law open c;");
        Check.error(2, A + "house b at 2 high 3; house ~b at 1 high 99; law open c;");
    }

    static void errors4AndOthersAreToldFromLeftToRight() {
        String sixteen = A + Stage.repeated("law open a;", 16);
        Check.error(4, Stage.twelveHouses() + "house ~b at 200 high 99;");
        Check.error(3, Stage.twelveHouses() + "law open ~b; house b at 1 high 2;");
        Check.error(5, A + "house b at 2 high ~99;" + Stage.repeated("law open a;", 17));
        Check.error(4, sixteen + "~law open b;");
        Check.error(2, sixteen + "house ~a at 2 high 3; law open a;");
        Check.error(3, A + Stage.repeated("law open a;", 15) + "law open ~b; law open a;");
        Check.error(4, Stage.twelveHouses() + Stage.repeated("law open a0;", 16)
            + "~law open a0; house b at 1 high 2;");
    }

    static void errorsAtOneTokenTellTheSmallestNumber() {
        for (int house = 0; house < 12; house++) {
            Check.error(2, Stage.twelveHouses() + "house ~a" + house + " at 1 high 2;");
        }
    }

    static void errorsOfAPlaceAndAHeightHideThoseThatFollowFromThem() {
        Check.error(5, "house a at 5 high ~31; house b at 5 high 1; law open c;");
        Check.error(5, "house a at ~100 high 1; house b at 100 high 1;");
    }

    // ---- Numbers of houses and laws

    static void housesAreNumberedFrom0InTheirOrder() {
        ShadowRegistry x = Check.taught("house z at 50 high 1; law open z; house a at 40 high 2;"
            + "house m at 60 high 3;");
        int[] places = {50, 40, 60};
        for (int house = 0; house < 3; house++) {
            Check.due("placeOf " + house, x.placeOf(house), places[house]);
            Check.due("heightOf " + house, x.heightOf(house), house + 1);
        }
    }

    static void lawsNameHousesByTheirOrder() {
        StringBuilder laws = new StringBuilder();
        for (int house = 0; house < 12; house++) {
            laws.append("law curfew a").append(house).append(" from ").append(6 + house).append(" to 18;");
        }
        ShadowRegistry x = Check.taught(Stage.twelveHouses() + laws);
        Check.due("passDays(1)", x.passDays(1), 12);
        for (int house = 0; house < 12; house++) {
            Check.due("curfewFrom " + house, x.curfewFrom(house), 6 + house);
        }
    }
}
