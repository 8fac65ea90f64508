/** '1. The language': the tape, blanks, words, numbers, symbols and keywords. */
public final class LanguageTest {
    private static final String A = "house a at 1 high 2;";
    private static final String[] KEYWORDS = {"house", "at", "high", "law", "curfew", "from", "to", "open", "raise",
        "by", "when", "day", "lost", "cast", "height", "worst", "of", "shades", "dark", "not", "and", "or", "min",
        "max"};
    /** A registry with each kind of token, one in each row. */
    private static final String[] TOKENS = {"house", "a", "at", "1", "high", "2", ";", "house", "b", "at", "3", "high",
        "0", ";", "law", "curfew", "a", "from", "-", "1", "+", "(", "day", "*", "worst", ")", "to", "min", "(", "12",
        ",", "height", "of", "b", "/", "2", ")", "when", "not", "[", "shades", "a", "b", "or", "dark", "a", "]", "and",
        "lost", "of", "a", "<", "1", "and", "cast", "of", "b", ">", "1", "or", "1", "=", "1", "and", "1", "<=", "2",
        "and", "1", ">=", "max", "(", "1", ",", "0", ")", ";", "law", "open", "a", ";", "law", "raise", "a", "by", "1",
        ";"};

    public static void main(String[] args) {
        Check.runAll(LanguageTest.class);
    }

    private static boolean isBlank(int sign) {
        return sign == 32 || sign == 10;
    }

    private static boolean isLetter(int sign) {
        return sign >= 97 && sign <= 122;
    }

    private static boolean isDigit(int sign) {
        return sign >= 48 && sign <= 57;
    }

    private static String joined(String between) {
        return between + String.join(between, TOKENS) + between;
    }

    // ---- The tape

    static void languageTheTapeIsEmptyAtFirstAndBehindTeach() {
        ShadowRegistry x = new ShadowRegistry();
        Check.due("teach() of the first tape", x.teach(), 0);
        Check.tape(x, A);
        Check.due("teach()", x.teach(), 0);
        Check.tape(x, "house b at 2 high 3;");
        Check.due("teach() of what was fed behind it", x.teach(), 0);
        Check.due("houses()", x.houses(), 1);
        Check.tape(x, "law");
        Check.due("teach() with an error", x.teach(), 1);
        x.feed(0x686f7573, 0x65206120, 0x61742031, 0x20686967, 0x6820323b);
        Check.due("teach() of what was fed behind an error", x.teach(), 0);
    }

    static void languageAFullTapeIsReadToItsEnd() {
        Check.good(Stage.padded(A, 2000));
        Check.good(A + Stage.repeated(" ", 2000 - A.length()));
        Check.error(1, 1999, Stage.padded(A + "!", 2000));
        ShadowRegistry x = Check.taught(Stage.padded(A, 1979) + "law raise a by 1   ;");
        Check.due("passDays(1)", x.passDays(1), 1);
    }

    // ---- Blanks and line ends

    static void languageBlanksAndLineEndsStandBetweenAllTokens() {
        Check.good(joined(" "));
        Check.good(joined("\n"));
        Check.good(joined(" \n\n "));
        Check.good("  \n " + A + " \n  ");
    }

    static void languageBlanksAloneAreARegistry() {
        for (int length : new int[] {1, 2, 20, 1999, 2000}) {
            Check.good(Stage.repeated(" ", length));
            Check.good(Stage.repeated("\n", length));
        }
        Check.good("");
    }

    static void languageNoOtherByteIsABlank() {
        for (int sign = 0; sign < 256; sign++) {
            if (isBlank(sign)) {
                Check.good((char) sign + A + (char) sign + A.replace("a at 1", "b at 2") + (char) sign);
            } else {
                Check.error(1, 20, A + (char) sign);
                Check.error(1, 20, A + (char) sign + " " + A);
            }
        }
    }

    static void languageNoBlankIsDueWhereTwoTokensCannotBeOne() {
        Check.good("house a at 1high 2;law open a;house b at 2high 3;law raise b by 1when 5<=6or 7>8;");
        Check.good(A + "law open a when[1<2]and not[day>=worst]or(1)<(2);");
        Check.good(A + "law raise a by-1-min(1,2)+-day/-(3);");
    }

    static void languageABlankIsDueWhereTwoTokensWouldBeOne() {
        Check.error(1, "~housea at 1 high 2;");
        Check.error(1, "house aat ~1 high 2;");
        Check.error(1, "house a ~at1 high 2;");
        Check.error(1, "house a at 1 ~high2;");
        Check.error(1, A + "~lawopen a;");
        Check.error(1, A + "law ~opena;");
        Check.error(1, A + "law open a when ~not1 < 2;");
        Check.error(1, A + "law open a when 1 < 2 ~and1 < 2;");
    }

    static void languageBlanksCutATokenInTwo() {
        Check.error(1, "~hou se a at 1 high 2;");
        Check.error(1, "house a at 1 ~2 high 3;");
        Check.error(1, "house a ~a at 1 high 2;");
        Check.error(1, A + "law open a when 1 < ~= 2;");
        Check.error(1, A + "law open a when 1 > ~= 2;");
    }

    // ---- The longest token

    static void languageTheLongestTokenIsRead() {
        Check.good(A + "law open a when 1<=2;");
        Check.good(A + "law open a when 1>=2;");
        Check.good("house houses at 1 high 2; house lawlaw at 2 high 2; house ator at 3 high 2; law open lawlaw;");
        Check.error(1, A + "law open a when 1 <=~= 2;");
        Check.error(1, A + "law open a when 1 >=~= 2;");
        Check.error(1, A + "law open a when 1 =~< 2;");
        Check.error(1, A + "law open a when 1 =~> 2;");
        Check.error(1, A + "law open a when 1 =~= 2;");
        Check.error(1, A + "law open a when 1 <~> 2;");
        Check.error(1, A + "law open a when 1 <~< 2;");
        Check.error(1, A + "law open a when ~day1 < 2;");
        Check.error(1, A + "law open a when ~worstof < 2;");
    }

    static void languageTheLongestNumberIsRead() {
        ShadowRegistry x = Check.taught("house a at 12 high 30;");
        Check.due("placeOf(0)", x.placeOf(0), 12);
        Check.due("heightOf(0)", x.heightOf(0), 30);
        Check.error(5, "house a at ~123456high 2;");
    }

    // ---- Words

    static void languageWordsHave1To10Bytes() {
        for (int length = 1; length <= 10; length++) {
            String name = "zzzzzzzzzz".substring(0, length);
            Check.good("house " + name + " at 1 high 2; law open " + name + ";");
        }
    }

    static void languageAWordOf11BytesIsTooLong() {
        Check.error(1, "house ~abcdefghijk at 1 high 2;");
        Check.error(1, "house ~a1234567890 at 1 high 2;");
        Check.error(1, "~househouseh a at 1 high 2;");
        Check.error(1, A + "law open ~aaaaaaaaaaa;");
        Check.error(1, "house ~" + Stage.repeated("a", 16) + " at 1 high 2;");
        Check.error(1, "house ~" + Stage.repeated("a", 266) + " at 1 high 2;");
        Check.error(1, "~" + Stage.repeated("a", 2000));
    }

    static void languageWordsOf10BytesAreLookedAtWhole() {
        Check.good("house abcdefghij at 1 high 2; house abcdefghik at 2 high 2; house bbcdefghij at 3 high 2;"
            + "house abcdefghi at 4 high 2; house abcdefghi0 at 5 high 2;");
        Check.error(3, "house abcdefghij at 1 high 2; law open ~abcdefghik;");
        Check.error(3, "house abcdefghij at 1 high 2; law open ~abcdefghi;");
        Check.error(3, "house zzzzzzzzzz at 1 high 2; law open ~azzzzzzzzz;");
        Check.error(3, "house aa at 1 high 2; law open ~a;");
        Check.error(3, "house a at 1 high 2; law open ~aa;");
        Check.error(2, "house zzzzzzzzzz at 1 high 2; house ~zzzzzzzzzz at 2 high 2;");
    }

    static void languageWordsOfOtherLettersAndDigitsAreOthers() {
        String signs = "abcdefghijklmnopqrstuvwxyz0123456789";
        for (int i = 0; i < signs.length(); i++) {
            ShadowRegistry x = new ShadowRegistry();
            for (int other = 0; other < signs.length(); other++) {
                String name = "x" + signs.charAt(i);
                String called = "x" + signs.charAt(other);
                Check.tape(x, "house " + name + " at 1 high 2; law open " + called + ";");
                Check.due("teach() of " + name + " and " + called, x.teach(), i == other ? 0 : 3);
            }
        }
    }

    static void languageWordsThatANumberCouldMixUpAreOthers() {
        String[] names = {"az", "a0", "b0", "aj", "a9", "ba", "z9", "zz", "dl", "z", "b", "aa"};
        StringBuilder text = new StringBuilder();
        for (int i = 0; i < names.length; i++) {
            text.append("house ").append(names[i]).append(" at ").append(i).append(" high 2;");
        }
        for (int i = 0; i < names.length; i++) {
            text.append("law raise ").append(names[i]).append(" by ").append(i).append(";");
        }
        ShadowRegistry x = Check.taught(text.toString());
        Check.due("passDays(1)", x.passDays(1), names.length - 1);
        for (int i = 0; i < names.length; i++) {
            Check.due("heightOf " + names[i], x.heightOf(i), 2 + i);
        }
    }

    static void languageWordsBeginWithALetterAToZ() {
        for (int sign = 0; sign < 256; sign++) {
            String text = "house " + (char) sign + "0 at 1 high 2;";
            if (isLetter(sign)) {
                Check.good(text);
            } else {
                // behind a blank the digit is the first byte that cannot stand there
                Check.error(1, isBlank(sign) ? 7 : 6, text);
            }
        }
    }

    static void languageWordsGoOnWithLettersAndDigits() {
        for (int sign = 0; sign < 256; sign++) {
            String text = "house a" + (char) sign + " at 1 high 2;";
            if (isLetter(sign) || isDigit(sign) || isBlank(sign)) {
                // with t the name is "at", a keyword
                if (sign == 't') {
                    Check.error(1, 6, text);
                } else {
                    Check.good(text);
                }
            } else {
                Check.error(1, 7, text);
            }
        }
    }

    // ---- Numbers

    static void languageNumbersHave1To6Digits() {
        Check.due("placeOf(0)", Check.taught("house a at 7 high 2;").placeOf(0), 7);
        Check.due("placeOf(0)", Check.taught("house a at 07 high 2;").placeOf(0), 7);
        Check.due("placeOf(0)", Check.taught("house a at 000099 high 000030;").placeOf(0), 99);
        Check.due("heightOf(0)", Check.taught("house a at 000099 high 000030;").heightOf(0), 30);
        Check.due("placeOf(0)", Check.taught("house a at 000000 high 0;").placeOf(0), 0);
        Check.good(A + "law raise a by 999999 + 100000 + 000000;");
    }

    static void languageANumberOf7DigitsIsTooLong() {
        Check.error(1, "house a at ~1000000 high 2;");
        Check.error(1, "house a at ~0000001 high 2;");
        Check.error(1, "house a at 1 high ~0000000;");
        Check.error(1, A + "law raise a by ~9999999;");
        Check.error(1, "house a at ~" + Stage.repeated("1", 262) + " high 2;");
        Check.error(1, "house a at ~" + Stage.repeated("0", 1989));
    }

    static void languageDigitsAre0To9() {
        for (int sign = 0; sign < 256; sign++) {
            String text = "house a at 1" + (char) sign + " high 2;";
            if (isDigit(sign)) {
                Check.due("placeOf(0)", Check.taught(text).placeOf(0), 10 + sign - '0');
            } else if (isBlank(sign)) {
                Check.good(text);
            } else {
                Check.error(1, 12, text);
            }
        }
    }

    // ---- Symbols

    static void languageEachSymbolIsRead() {
        String[] sums = {"(1)", "min(1,2)", "1+2", "1-2", "1*2", "1/2"};
        for (String sum : sums) {
            Check.good(A + "law raise a by " + sum + ";");
        }
        String[] comparisons = {"<", ">", "=", "<=", ">="};
        for (String comparison : comparisons) {
            Check.good(A + "law open a when [1" + comparison + "2];");
        }
    }

    static void languageNoOtherByteBeginsAToken() {
        for (int sign = 0; sign < 256; sign++) {
            String text = A + "law open a when 1 " + (char) sign + " 2;";
            if (sign == '<' || sign == '>' || sign == '=') {
                Check.good(text);
            } else if ("+-*/".indexOf(sign) >= 0) {
                // the sum goes on, and the comparison is missing at its end
                Check.error(1, 41, text);
            } else if (isBlank(sign)) {
                Check.error(1, 40, text);
            } else {
                Check.error(1, 38, text);
            }
        }
    }

    // ---- Keywords

    static void languageKeywordsAreNoNames() {
        for (String keyword : KEYWORDS) {
            Check.error(1, "house ~" + keyword + " at 1 high 2;");
            Check.error(1, A + "law open ~" + keyword + ";");
        }
    }

    static void languageAllOtherWordsAreNames() {
        for (String keyword : KEYWORDS) {
            String shorter = keyword.substring(0, keyword.length() - 1);
            String behind = keyword.substring(1);
            for (String name : new String[] {shorter, behind, keyword + "1", keyword + "s", "a" + keyword}) {
                Check.good("house " + name + " at 1 high 2; law open " + name + ";");
            }
        }
    }
}
