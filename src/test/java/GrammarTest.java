/** '1. The language': the grammar, and the depth. */
public final class GrammarTest {
    private static final String A = "house a at 1 high 2;";

    public static void main(String[] args) {
        Check.runAll(GrammarTest.class);
    }

    private static boolean holds(String test) {
        return Check.taught(A + "law raise a by 1 when " + test + ";").passDays(1) == 1;
    }

    // ---- Grammar

    static void grammarARegistryHasAnyNumberOfLinesAlsoNone() {
        Check.good("");
        Check.good(A);
        Check.good(A + "law open a; house b at 2 high 3; law open b; law raise b by day; house c at 3 high 0;");
    }

    static void grammarALineEndsWithASemicolon() {
        Check.error(1, "house a at 1 high 2 ~house b at 2 high 2;");
        Check.error(1, "house a at 1 high 2 ~law open a;");
        Check.error(1, A + "law open a ~law open a;");
        Check.error(1, A + "law open a when 1 < 2 ~house b at 2 high 3;");
        Check.error(1, "house a at 1 high 2~");
        Check.error(1, A + "law open a~");
    }

    static void grammarNoSemicolonStandsAlone() {
        Check.error(1, "~;");
        Check.error(1, A + "~;");
        Check.error(1, "~;" + A);
    }

    static void grammarALineBeginsWithHouseOrLaw() {
        Check.error(1, "~a");
        Check.error(1, "~5");
        Check.error(1, "~open a;");
        Check.error(1, "~at 1 high 2;");
        Check.error(1, "~house1 at 1 high 2;");
        Check.error(1, A + "~when 1 < 2;");
    }

    static void grammarAHouseHasANameAPlaceAndAHeight() {
        Check.error(1, "house ~1 at 1 high 2;");
        Check.error(1, "house ~at 1 high 2;");
        Check.error(1, "house a ~1 high 2;");
        Check.error(1, "house a ~high 1 at 2;");
        Check.error(1, "house a at ~b high 2;");
        Check.error(1, "house a at ~-1 high 2;");
        Check.error(1, "house a at ~high 2;");
        Check.error(1, "house a at 1 ~2;");
        Check.error(1, "house a at 1 high ~(2);");
        Check.error(1, "house a at 1 high ~day;");
        Check.error(1, "house a at 1 high ~;");
        Check.error(1, "house a at 1 high 2 ~+ 1;");
    }

    static void grammarAnOrderIsOneOfThree() {
        Check.error(1, A + "law ~a;");
        Check.error(1, A + "law ~;");
        Check.error(1, A + "law ~when 1 < 2;");
        Check.error(1, A + "law ~lost of a;");
        Check.error(1, A + "law ~law open a;");
        Check.error(1, A + "law open ~;");
        Check.error(1, A + "law open a ~by 1;");
        Check.error(1, A + "law open a ~from 1 to 2;");
        Check.error(1, A + "law raise a ~;");
        Check.error(1, A + "law raise a ~from 1 to 2;");
        Check.error(1, A + "law raise a by ~;");
        Check.error(1, A + "law raise a by 1 ~to 2;");
        Check.error(1, A + "law curfew a ~by 1;");
        Check.error(1, A + "law curfew a from 1 ~;");
        Check.error(1, A + "law curfew a ~to 1 from 2;");
        Check.error(1, A + "law curfew a from 1 to ~when 1 < 2;");
        Check.error(1, A + "law curfew a from ~to 2;");
    }

    static void grammarALawHasOneTestOrNone() {
        Check.good(A + "law open a; law raise a by 1; law curfew a from 1 to 2;");
        Check.good(A + "law open a when dark a; law raise a by 1 when dark a; law curfew a from 1 to 2 when dark a;");
        Check.error(1, A + "law open a when ~;");
        Check.error(1, A + "law open a when 1 < 2 ~when 1 < 2;");
        Check.error(1, A + "law open a ~1 < 2;");
    }

    static void grammarOrStandsAnyNumberOfTimesAlsoNone() {
        Check.due("no or", holds("1 < 2"), true);
        Check.due("one or", holds("1 > 2 or 1 < 2"), true);
        Check.due("the last of many", holds(Stage.repeated("1 > 2 or ", 60) + "1 < 2"), true);
        Check.due("none of many", holds(Stage.repeated("1 > 2 or ", 60) + "1 > 2"), false);
        Check.error(1, A + "law open a when dark a or ~;");
        Check.error(1, A + "law open a when ~or dark a;");
        Check.error(1, A + "law open a when dark a or ~or dark a;");
    }

    static void grammarAndStandsAnyNumberOfTimesAlsoNone() {
        Check.due("one and", holds("1 < 2 and 1 < 2"), true);
        Check.due("all of many", holds(Stage.repeated("1 < 2 and ", 60) + "1 < 2"), true);
        Check.due("all but the last", holds(Stage.repeated("1 < 2 and ", 60) + "1 > 2"), false);
        Check.error(1, A + "law open a when dark a and ~;");
        Check.error(1, A + "law open a when ~and dark a;");
        Check.error(1, A + "law open a when 1 < 2 and ~or 1 < 2;");
    }

    static void grammarASingleIsAWholeTest() {
        Check.error(1, A + "law open a when 1~;");
        Check.error(1, A + "law open a when (1 ~< 2);");
        Check.error(1, A + "law open a when (~[1] < 2);");
        Check.error(1, A + "law open a when [1~] < 2;");
        Check.error(1, A + "law open a when [1 < 2] ~< 2;");
        Check.error(1, A + "law open a when [1 < 2~;");
        Check.error(1, A + "law open a when [1 < 2~);");
        Check.error(1, A + "law open a when [~];");
        Check.error(1, A + "law open a when 1 < ~not 2;");
        Check.error(1, A + "law open a when 1 < ~dark a;");
        Check.error(1, A + "law open a when not ~and 1 < 2;");
        Check.error(1, A + "law open a when not ~;");
        Check.good(A + "law open a when [[dark a or shades a a] and not not [1 + 1 = 2]] or (1) < (2);");
    }

    static void grammarAComparisonHasTwoSides() {
        Check.error(1, A + "law open a when 1 < 2 ~< 3;");
        Check.error(1, A + "law open a when 1 < ~;");
        Check.error(1, A + "law open a when ~< 1;");
        Check.error(1, A + "law open a when 1 ~2;");
        Check.error(1, A + "law open a when 1 ~and 2;");
    }

    static void grammarShadesHasTwoNamesAndDarkOne() {
        Check.error(1, A + "law open a when shades ~;");
        Check.error(1, A + "law open a when shades a ~;");
        Check.error(1, A + "law open a when shades a ~1;");
        Check.error(1, A + "law open a when shades a a ~a;");
        Check.error(1, A + "law open a when shades ~(a a);");
        Check.error(1, A + "law open a when dark ~;");
        Check.error(1, A + "law open a when dark ~1;");
        Check.error(1, A + "law open a when dark a ~a;");
        Check.error(1, A + "law open a when dark ~of a;");
    }

    static void grammarASumHasAnyNumberOfProductsAtLeastOne() {
        Check.due("one product", holds("1 = 1"), true);
        Check.due("many products", holds(Stage.repeated("1 + ", 170) + "1 - 1 = 170"), true);
        Check.error(1, A + "law raise a by 1 + ~;");
        Check.error(1, A + "law raise a by 1 + ~+ 1;");
        Check.error(1, A + "law raise a by ~+ 1;");
        Check.error(1, A + "law raise a by 1 - ~;");
    }

    static void grammarAProductHasAnyNumberOfValuesAtLeastOne() {
        Check.due("many values", holds(Stage.repeated("-1 * ", 101) + "7 / 1 / 1 = -7"), true);
        Check.error(1, A + "law raise a by 1 * ~;");
        Check.error(1, A + "law raise a by ~* 1;");
        Check.error(1, A + "law raise a by ~/ 1;");
        Check.error(1, A + "law raise a by 1 / ~/ 1;");
    }

    static void grammarAValueIsOneOfThoseThatAreTold() {
        Check.good(A + "law raise a by - - 1 * -(2 - -3) / max(lost of a, min(cast of a, height of a + 1)) - worst;");
        Check.error(1, A + "law raise a by ~a;");
        Check.error(1, A + "law raise a by ~[1];");
        Check.error(1, A + "law raise a by ~dark a;");
        Check.error(1, A + "law raise a by 1 ~2;");
        Check.error(1, A + "law raise a by 1 ~< 2;");
        Check.error(1, A + "law raise a by lost ~a;");
        Check.error(1, A + "law raise a by cast of ~5;");
        Check.error(1, A + "law raise a by height of ~;");
        Check.error(1, A + "law raise a by day ~of a;");
        Check.error(1, A + "law raise a by worst ~of a;");
        Check.error(1, A + "law raise a by -~;");
    }

    static void grammarBracketsAreClosed() {
        Check.error(1, A + "law raise a by (~);");
        Check.error(1, A + "law raise a by (1~;");
        Check.error(1, A + "law raise a by (1~];");
        Check.error(1, A + "law raise a by 1~);");
        Check.error(1, A + "law raise a by (1~,2);");
    }

    static void grammarMinAndMaxTakeTwoSums() {
        Check.error(1, A + "law raise a by min ~1;");
        Check.error(1, A + "law raise a by min(~);");
        Check.error(1, A + "law raise a by min(1~);");
        Check.error(1, A + "law raise a by max(1,~);");
        Check.error(1, A + "law raise a by max(~,1);");
        Check.error(1, A + "law raise a by min(1, 2~, 3);");
        Check.error(1, A + "law raise a by min(1, 2~;");
        Check.error(1, A + "law raise a by max~;");
        Check.good(A + "law raise a by min(1 + 2, 3 * 4) - max(-1, (2));");
    }

    // ---- Depth

    static void depthOf8InRoundBracketsIsTaken() {
        Check.due("depth 8", holds("((((((((7)))))))) = 7"), true);
        Check.good(A + "law curfew a from ((((((((1)))))))) to ((((((((2))))))));");
    }

    static void depthOf9InRoundBracketsIsRefused() {
        Check.error(1, A + "law raise a by ((((((((~(1)))))))));");
        Check.error(1, A + "law curfew a from ((((((((~(1))))))))) to 2;");
        Check.error(1, A + "law curfew a from 1 to ((((((((~(2)))))))));");
        Check.error(1, A + "law open a when ((((((((~(1))))))))) < 2;");
        Check.error(1, A + "law open a when 1 < ((((((((~(1)))))))));");
    }

    static void depthOf8InSquareBracketsIsTaken() {
        Check.due("depth 8", holds("[[[[[[[[1 < 2]]]]]]]]"), true);
    }

    static void depthOf9InSquareBracketsIsRefused() {
        Check.error(1, A + "law open a when [[[[[[[[~[dark a]]]]]]]]];");
    }

    static void depthOf8BehindSignsIsTaken() {
        Check.due("depth 8", holds("--------7 = 7"), true);
        Check.due("depth 7", holds("-------7 = 0 - 7"), true);
    }

    static void depthOf9BehindSignsIsRefused() {
        Check.error(1, A + "law raise a by --------~-1;");
        Check.error(1, A + "law raise a by 1 + --------~-1;");
        Check.error(1, A + "law raise a by 1 - --------~-1;");
    }

    static void depthOf8BehindNotIsTaken() {
        Check.due("depth 8", holds("not not not not not not not not 1 < 2"), true);
        Check.due("depth 7", holds("not not not not not not not 1 < 2"), false);
    }

    static void depthOf9BehindNotIsRefused() {
        Check.error(1, A + "law open a when not not not not not not not not ~not dark a;");
    }

    static void depthOf8InMinAndMaxIsTaken() {
        Check.good(A + "law raise a by (((((((max(1, 2))))))));");
        Check.good(A + "law raise a by min(1,min(1,min(1,min(1,max(1,max(1,max(1,max(1,2))))))));");
        Check.good(A + "law raise a by min(min(min(min(max(max(max(max(1,2),1),1),1),1),1),1),1);");
    }

    static void depthOf9InMinAndMaxIsRefusedAtItsBracket() {
        Check.error(1, A + "law raise a by ((((((((min~(1, 2)))))))));");
        Check.error(1, A + "law raise a by ((((((((max ~(1, 2)))))))));");
        Check.error(1, A + "law raise a by --------min~(1, 2);");
        Check.error(1, A + "law raise a by (((((((max(1, ~-2))))))));");
        Check.error(1, A + "law raise a by (((((((max(~(1), 2))))))));");
        Check.error(1, A + "law raise a by ((((((((min ~1)))))))));");
    }

    static void depthOfAllKindsIsAdded() {
        Check.good(A + "law open a when not [not [not [-min(1, 2) = 1]]];");
        Check.error(1, A + "law open a when not [not [not [-min(1, ~(2)) = 1]]];");
        Check.error(1, A + "law open a when not [not [not [-min(~-1, 2) = 1]]];");
        Check.good(A + "law open a when not [not [not [not [dark a and 1 = 1]]]];");
        Check.error(1, A + "law open a when not [not [not [not [dark a and 1 = ~(1)]]]];");
        Check.error(1, A + "law open a when not [not [not [not [dark a and ~not dark a]]]];");
        Check.error(1, A + "law open a when not [not [not [not [~[dark a]]]]];");
        Check.error(1, A + "law open a when -(-(-(-(~-1)))) = 1;");
    }

    static void depthIsLessBehindItsBracket() {
        Check.good(A + "law raise a by ((((((((1)))))))) + ((((((((2))))))));");
        Check.good(A + "law raise a by (((((((1) + (2)) * (3))))));");
        Check.error(1, A + "law raise a by ((((((((1)) + ((~(1;");
        Check.good(A + "law open a when [[[[[[[[dark a]]]]]]]] and [[[[[[[[dark a]]]]]]]];");
        Check.good(A + "law open a when ((((((((1)))))))) < ((((((((2))))))));");
    }

    static void depthBehindASignIsThatOfItsValueAlone() {
        Check.good(A + "law raise a by -------- 1 - -------- 2;");
        Check.good(A + "law raise a by --------1 * (2) + (3);");
        Check.good(A + "law raise a by (((((((-1 * (2) + (3))))))));");
        Check.error(1, A + "law raise a by (((((((-~(2))))))));");
    }

    static void depthBehindNotIsThatOfItsTestAlone() {
        Check.good(A + "law open a when not not not not not not not not dark a and not [dark a];");
        Check.good(A + "law open a when not not not not not not not not dark a or [[[[[[[[dark a]]]]]]]];");
        Check.error(1, A + "law open a when not not not not not not not not 1 < ~(2);");
    }

    static void depthDoesNotCountASignBetweenTwoValues() {
        Check.due("ten differences", holds("20 - 1 - 1 - 1 - 1 - 1 - 1 - 1 - 1 - 1 - 1 = 10"), true);
        Check.good(A + "law raise a by ((((((((1 - 2 - 3))))))));");
    }

    static void depthBeginsAnewInEachPartOfALaw() {
        Check.good(A + "law curfew a from ((((((((1)))))))) to --------1 when [[[[[[[[dark a]]]]]]]];"
            + "law raise a by ((((((((1)))))))) when not not not not not not not not dark a;");
    }
}
