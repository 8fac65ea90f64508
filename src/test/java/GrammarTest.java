/** Tokens, grammar, depth, and which of the errors 1 to 5 is told, at which position. */
public final class GrammarTest {
    private static final String A = "house a at 1 high 2;";

    public static void main(String[] args) {
        tokens();
        words();
        ends();
        lines();
        testsAndSums();
        depth();
        manyTokens();
        laterErrors();
        whichError();
        Check.end("GrammarTest");
    }

    /** The position of the mark ~ in the text is that of the error. */
    private static void error(int error, String marked) {
        int at = marked.indexOf('~');
        String text = marked.replace("~", "");
        ShadowRegistry x = Check.taught("house z at 5 high 6; law raise z by 1;");
        x.passDays(1);
        long before = x.digest();
        Check.tape(x, text);
        Check.due("teach() of " + marked, x.teach(), error);
        Check.due("errorAt() of " + marked, x.errorAt(), at);
        Check.due("digest() behind " + marked, x.digest(), before);
    }

    private static void good(String text) {
        ShadowRegistry x = Check.taught(text);
        Check.due("errorAt() of " + text, x.errorAt(), -1);
    }

    private static void tokens() {
        good("");
        good("  \n ");
        good("house a at 1 high 2;");
        good("\n house\na  at 1\n\nhigh 2 ; \n");
        good("house a at 000001high 000002;");
        good("house a at 1high 2;law open a;");
        good(A + "law open a when[1<2]and not[day>=worst];");
        good(A + "law raise a by-1;");
        good(A + "law raise a by 1when 5<=6or 7>8;");
        error(1, A + "~\t");
        error(1, A + "~\r");
        error(1, "~House a at 1 high 2;");
        error(1, "house a at 1 high 2;~\0");
        error(1, "house a at 1 high 2;~" + (char) 160);
        error(1, "house a at 1 high 2;~" + (char) 255);
        error(1, "house a at 1 high 2;~" + (char) 128);
        error(1, A + "law open a when 1 ~& 2;");
        error(1, A + "law open a when 1 < ~= 2;");
        error(1, A + "law open a when 1 = ~< 2;");
        error(1, A + "law open a when 1 = ~> 2;");
        error(1, A + "law open a when 1 <= ~= 2;");
        error(1, A + "law open a when 1 ~{ 2;");
        error(1, A + "law open a when 1 ~` 2;");
        error(1, A + "law open a when 1 ~: 2;");
        error(1, A + "law open a when 1 ~. 2;");
    }

    private static void words() {
        good("house abcdefghij at 1 high 2; law open abcdefghij;");
        good("house a123456789 at 1 high 2; house a12345678 at 2 high 2; law open a123456789;");
        good("house z at 1 high 2; house zz at 2 high 2; house a0 at 3 high 2; house a00 at 4 high 2;");
        good("house laws at 1 high 2; house housea at 2 high 2; house ator at 3 high 2; house maxi at 4 high 2;");
        error(1, "house ~abcdefghijk at 1 high 2;");
        good("house az at 1 high 2; house a0 at 2 high 2; house b0 at 3 high 2; house aj at 4 high 2;"
            + "house a9 at 5 high 2; house ba at 6 high 2; house z9 at 7 high 2; house zz at 8 high 2;");
        error(3, "house zzzzzzzzzz at 1 high 2; law open ~zzzzzzzzz9;");
        error(3, "house zzzzzzzzzz at 1 high 2; law open ~azzzzzzzzz;");
        error(1, "house a ~at1 high 2;");
        error(1, "house ~1a at 1 high 2;");
        error(1, "~houses a at 1 high 2;");
        error(1, "house a at ~1234567 high 2;");
        error(1, "house a at 1 high ~0000002;");
        error(5, "house a at ~123456 high 2;");
        String[] keywords = {"house", "at", "high", "law", "curfew", "from", "to", "open", "raise", "by", "when", "day",
            "lost", "cast", "height", "worst", "of", "shades", "dark", "not", "and", "or", "min", "max"};
        for (String keyword : keywords) {
            error(1, "house ~" + keyword + " at 1 high 2;");
            good("house " + keyword + "1 at 1 high 2; law open " + keyword + "1;");
        }
    }

    private static void ends() {
        error(1, "house~");
        error(1, "house a at 1 high 2  \n ~");
        error(1, A + "law open a when~");
        error(1, A + "law open a when (1~");
        error(1, A + "law raise a by min(1,~");
        ShadowRegistry x = new ShadowRegistry();
        StringBuilder blanks = new StringBuilder("house a at 1 high 2");
        while (blanks.length() < 2000) {
            blanks.append('\n');
        }
        Check.tape(x, blanks.toString());
        Check.due("teach() of a full tape that lacks its end", x.teach(), 1);
        Check.due("errorAt() of a full tape that lacks its end", x.errorAt(), 2000);
        blanks.setCharAt(1999, ';');
        good(blanks.toString());
        StringBuilder word = new StringBuilder();
        StringBuilder digits = new StringBuilder("house a at ");
        while (word.length() < 2000) {
            word.append('a');
        }
        while (digits.length() < 2000) {
            digits.append('9');
        }
        error(1, "~" + word);
        error(1, "house a at ~" + digits.substring(11));
    }

    private static void lines() {
        error(1, "~;");
        error(1, "~a");
        error(1, "~5");
        error(1, A + "~;");
        error(1, "house a ~high 1 at 2;");
        error(1, "house a at ~-1 high 2;");
        error(1, "house a at 1 high ~(2);");
        error(1, "house a at 1 high 2 ~law open a;");
        error(1, A + "law ~a;");
        error(1, A + "law ~when 1 < 2;");
        error(1, A + "law open ~;");
        error(1, A + "law open a ~by 1;");
        error(1, A + "law raise a ~;");
        error(1, A + "law raise a by ~;");
        error(1, A + "law raise a by ~[1];");
        error(1, A + "law raise a by 1 ~< 2;");
        error(1, A + "law curfew a from 1 ~;");
        error(1, A + "law curfew a ~to 1 from 2;");
        error(1, A + "law curfew a from 1 to ~when 1 < 2;");
        error(1, A + "law open a when 1 < 2 ~when 1 < 2;");
        good(A + "law curfew a from 1 to 2 when dark a; house b at 2 high 3; law open b; law raise b by day;");
    }

    private static void testsAndSums() {
        error(1, A + "law open a when ~;");
        error(1, A + "law open a when 1~;");
        error(1, A + "law open a when 1 < 2 ~< 3;");
        error(1, A + "law open a when (1 ~< 2);");
        error(1, A + "law open a when (~[1] < 2);");
        error(1, A + "law open a when [1~] < 2;");
        error(1, A + "law open a when [1 < 2] ~< 2;");
        error(1, A + "law open a when 1 < ~not 2;");
        error(1, A + "law open a when not ~and 1 < 2;");
        error(1, A + "law open a when 1 < 2 and ~or 1 < 2;");
        error(1, A + "law open a when shades a ~;");
        error(1, A + "law open a when shades ~(a a);");
        error(1, A + "law open a when dark ~1;");
        error(1, A + "law open a when dark a ~a;");
        error(1, A + "law raise a by 1 + ~+ 1;");
        error(1, A + "law raise a by ~* 1;");
        error(1, A + "law raise a by ~a;");
        error(1, A + "law raise a by 1 ~2;");
        error(1, A + "law raise a by lost ~a;");
        error(1, A + "law raise a by lost of ~5;");
        error(1, A + "law raise a by worst ~of a;");
        error(1, A + "law raise a by min ~1;");
        error(1, A + "law raise a by min(1~);");
        error(1, A + "law raise a by min(1, 2~, 3);");
        error(1, A + "law raise a by max(~);");
        error(1, A + "law raise a by (~);");
        error(1, A + "law raise a by (1~;");
        error(1, A + "law raise a by (1~];");
        error(1, A + "law raise a by 1~);");
        good(A + "law raise a by - - 1 * -(2 - -3) / max(lost of a, min(cast of a, height of a + 1)) - worst;");
        good(A + "law open a when [[dark a or shades a a] and not not [1 + 1 = 2]] or (1) < (2);");
    }

    private static void depth() {
        error(1, A + "law raise a by ((((((((~(1)))))))));");
        good(A + "law raise a by ((((((((1)))))))) + ((((((((2))))))));");
        error(1, A + "law raise a by --------~-1;");
        good(A + "law curfew a from ((((((((1)))))))) to ((((((((2))))))));");
        error(1, A + "law curfew a from ((((((((~(1))))))))) to 2;");
        error(1, A + "law curfew a from 1 to ((((((((~(2)))))))));");
        good(A + "law raise a by -------- 1 - -------- 2;");
        good(A + "law open a when not not not not not not not not dark a and not [dark a];");
        error(1, A + "law open a when not not not not not not not not ~not dark a;");
        good(A + "law open a when [[[[[[[[dark a]]]]]]]];");
        error(1, A + "law open a when [[[[[[[[~[dark a]]]]]]]]];");
        good(A + "law open a when not [not [not [-min(1, 2) = 1]]];");
        error(1, A + "law open a when not [not [not [-min(1, ~(2)) = 1]]];");
        error(1, A + "law raise a by (((((((max(1, ~-2))))))));");
        good(A + "law raise a by (((((((max(1, 2))))))));");
        error(1, A + "law raise a by ((((((((min~(1, 2)))))))));");
        // behind a - the depth is greater for one value only
        good(A + "law raise a by (((((((-1 * (2) + (3))))))));");
        error(1, A + "law raise a by (((((((-~(2))))))));");
        error(1, A + "law open a when not [not [not [not [dark a and 1 = ~(1)]]]];");
        good(A + "law open a when not [not [not [not [dark a and 1 = 1]]]];");
    }

    private static void manyTokens() {
        StringBuilder ones = new StringBuilder(A + "law raise a by -1");
        // 7 + 6 tokens stand there, two more come with each turn, and the 400th is the ;
        for (int tokens = 13; tokens + 2 < 400; tokens += 2) {
            ones.append("+1");
        }
        ones.append(";");
        good(ones.toString() + "  ");
        error(1, ones + " ~;");
        error(1, ones + "~house");
        error(1, ones + "~?");
        String without = ones.substring(0, ones.length() - 1);
        error(1, without + "+~1;");
        error(1, without + "+~");
        error(1, without + "~)");
        StringBuilder houses = new StringBuilder();
        for (int i = 0; i < 57; i++) {
            houses.append("house a at 1 high 99;");
        }
        error(1, houses + "~?");
        error(1, houses + "house~");
    }

    private static void laterErrors() {
        error(2, A + "house ~a at 200 high 99;");
        error(5, A + "house b at ~1 high 99;");
        error(5, A + "house b at ~0001 high 99;");
        error(5, A + "house b at ~100 high 3;");
        good(A + "house b at 99 high 30; house c at 0 high 0;");
        error(5, A + "house b at 99 high ~31;");
        error(3, A + "law open ~b; house b at 3 high 4;");
        error(3, A + "law curfew ~b from lost of c to 1;");
        error(3, A + "law curfew a from lost of ~b to 1;");
        error(3, A + "law curfew a from 1 to cast of ~b;");
        error(3, A + "law raise ~b by 1;");
        error(3, A + "law raise a by height of ~b;");
        error(3, A + "law open a when shades ~b c;");
        error(3, A + "law open a when shades a ~b;");
        error(3, A + "law open a when dark ~b;");
        error(3, "law open ~a;" + A);
        error(3, A + "law open a when 1 < 2 and dark ~aa;");
    }

    private static void whichError() {
        StringBuilder twelve = new StringBuilder();
        for (int i = 0; i < 12; i++) {
            twelve.append("house a").append(i).append(" at ").append(i).append(" high 1;");
        }
        good(twelve.toString());
        error(4, twelve + "house ~b at 200 high 99;");
        error(2, twelve + "house ~a3 at 200 high 99;");
        error(1, twelve + "house b at 1 high 2;~a");
        error(3, twelve + "law open ~b; house b at 1 high 2;");
        StringBuilder sixteen = new StringBuilder(A);
        for (int i = 0; i < 16; i++) {
            sixteen.append("law open a;");
        }
        good(sixteen.toString());
        error(4, sixteen + "~law open b;");
        error(4, sixteen + "house c at 2 high 3; ~law open a;");
        error(1, sixteen + "law open~;");
        error(2, sixteen + "house ~a at 2 high 3; law open a;");
        error(1, A + A + "~x");
        error(5, "house a at ~100 high 31; house a at 1 high 2; law open b;");
        error(3, A + "law open ~b; house a at 1 high 2;");
        error(5, A + "house b at ~1 high 2; law open c;");
    }
}
