/** Sums and tests of laws, and what laws change. */
public final class LawsTest {
    /** b loses 13 to 18 and c loses 16 to 18, both to a. */
    private static final String STREET = "house a at 10 high 12; house b at 14 high 2; house c at 30 high 0;";

    public static void main(String[] args) {
        sums();
        wrappingAround();
        values();
        tests();
        curfews();
        raises();
        opens();
        turns();
        Check.end("LawsTest");
    }

    /** On the first day, whether a law with this test is carried out. */
    private static void holds(String test, boolean due) {
        ShadowRegistry x = Check.taught(STREET + "law raise b by 1 when " + test + ";");
        Check.due("passDays(1) with " + test, x.passDays(1), due ? 1 : 0);
    }

    private static void equal(String left, String right) {
        holds(left + " = " + right, true);
        holds("not " + left + " = " + right, false);
    }

    private static void sums() {
        equal("1 + 2 * 3", "7");
        equal("(1 + 2) * 3", "9");
        equal("10 - 3 - 2", "5");
        equal("20 / 3 / 2", "3");
        equal("2 * 7 / 4", "3");
        equal("7 / 4 * 2", "2");
        equal("-7 / 2", "-3");
        equal("7 / -2", "0 - 3");
        equal("-7 / -2", "3");
        equal("5 / 0", "0");
        equal("-5 / (1 - 1)", "0");
        equal("1 + 5 / 0", "1");
        equal("- - 5", "5");
        equal("-2 * 3", "-6");
        equal("-(2 + 3)", "-5");
        equal("- 2 + 3", "1");
        equal("min(3, -4)", "-4");
        equal("max(3, -4)", "3");
        equal("min(2, 2) + max(1, min(9, 8))", "10");
        equal("000012", "12");
        equal("999999", "999998 + 1");
    }

    private static void wrappingAround() {
        String half = "32768 * 65536";
        String least = "(" + half + ")";
        holds(half + " < 0", true);
        equal(least, "-" + least);
        equal(least, "0 - 214748 * 10000 - 3648");
        equal(least + " - 1", "214748 * 10000 + 3647");
        equal("214748 * 10000 + 3647 + 1", least);
        equal(least + " / -1", least);
        equal(least + " / 1", least);
        equal(least + " * -1", least);
        equal("65536 * 65536", "0");
        equal("999999 * 999999", "-72937 * 10000 - 9967");
        holds(least + " < 1 - 0", true);
    }

    private static void values() {
        equal("day", "0");
        equal("worst", "6");
        equal("lost of a", "0");
        equal("lost of b", "6");
        equal("lost of c", "3");
        equal("cast of a", "9");
        equal("cast of b", "0");
        equal("height of a", "12");
        holds("shades a b", true);
        holds("shades a c", true);
        holds("shades b a", false);
        holds("shades b c", false);
        holds("shades a a", false);
        holds("dark a", false);
        holds("dark b", true);
        holds("dark c", true);
        ShadowRegistry x = Check.taught(STREET
            + "law raise a by 1 when day = 2; law raise a by 1 when height of a = 12 and day = 3;");
        x.setCurfew(0, 6, 18);
        Check.due("passDays(2)", x.passDays(2), 0);
        Check.due("passDays(1): day is 2 in the third", x.passDays(1), 1);
        Check.due("passDays(1): height is its own one, 13", x.passDays(1), 0);
    }

    private static void tests() {
        holds("1 < 2", true);
        holds("2 < 2", false);
        holds("-3 < 2", true);
        holds("2 > 1", true);
        holds("2 > 2", false);
        holds("2 = 2", true);
        holds("2 = 3", false);
        holds("2 <= 2", true);
        holds("3 <= 2", false);
        holds("2 >= 2", true);
        holds("2 >= 3", false);
        holds("1 = 1 or 1 = 1 and 1 = 2", true);
        holds("1 = 2 and 1 = 1 or 1 = 1", true);
        holds("[1 = 1 or 1 = 1] and 1 = 2", false);
        holds("not 1 = 1 and 1 = 2", false);
        holds("not 1 = 1 or 1 = 1", true);
        holds("not [1 = 1 or 1 = 1]", false);
        holds("not [1 = 1 and 1 = 2]", true);
        holds("not not dark b", true);
        holds("1 = 2 or 1 = 2 or dark b", true);
        holds("dark b and dark c and dark a", false);
        holds("1 = 2 and 1 = 1 or 1 = 2", false);
    }

    private static void curfew(String from, String to, int dueFrom, int dueTo) {
        ShadowRegistry x = Check.taught(STREET + "law curfew a from " + from + " to " + to + ";");
        Check.due("curfew from " + from + " to " + to, x.passDays(1), 1);
        Check.due("curfewFrom(0) from " + from + " to " + to, x.curfewFrom(0), dueFrom);
        Check.due("curfewTo(0) from " + from + " to " + to, x.curfewTo(0), dueTo);
        Check.due("a curfew that is there already", x.passDays(3), 0);
    }

    private static void noCurfew(String from, String to) {
        ShadowRegistry x = Check.taught(STREET + "law curfew a from " + from + " to " + to + ";");
        Check.due("no curfew from " + from + " to " + to, x.passDays(1), 0);
        Check.due("hasCurfew(0) from " + from + " to " + to, x.hasCurfew(0), false);
        x.setCurfew(0, 7, 9);
        Check.due("no curfew in the place of another one", x.passDays(1), 0);
        Check.due("curfewFrom(0) of the other one", x.curfewFrom(0), 7);
        Check.due("curfewTo(0) of the other one", x.curfewTo(0), 9);
    }

    private static void curfews() {
        curfew("6", "18", 6, 18);
        curfew("12", "12", 12, 12);
        curfew("5", "19", 6, 18);
        curfew("-999999", "999999", 6, 18);
        curfew("0", "1", 6, 6);
        curfew("99", "20", 18, 18);
        curfew("99", "18", 18, 18);
        curfew("7 + 1", "2 * 7", 8, 14);
        noCurfew("9", "8");
        noCurfew("99", "17");
        noCurfew("7", "-1");
        noCurfew("18", "6");
        ShadowRegistry x = Check.taught(STREET + "law curfew a from 8 to 9; law curfew a from 8 to 10;");
        Check.due("one curfew in the place of another one", x.passDays(2), 4);
        Check.due("curfewTo(0)", x.curfewTo(0), 10);
    }

    private static void raise(String by, int due, int dueHeight) {
        ShadowRegistry x = Check.taught(STREET + "law raise a by " + by + ";");
        Check.due("raise by " + by, x.passDays(1), due);
        Check.due("heightOf(0) raised by " + by, x.heightOf(0), dueHeight);
    }

    private static void raises() {
        raise("0", 0, 12);
        raise("5", 1, 17);
        raise("-5", 1, 7);
        raise("18", 1, 30);
        raise("19", 1, 30);
        raise("-12", 1, 0);
        raise("-13", 1, 0);
        raise("32768 * 65536 - 1", 1, 30);
        raise("32768 * 65536", 1, 0);
        ShadowRegistry x = Check.taught(STREET + "law raise a by 9; law raise c by -1;");
        Check.due("passDays(3): 21, 30 and no change", x.passDays(3), 2);
        Check.due("heightOf(0)", x.heightOf(0), 30);
        Check.due("heightOf(2)", x.heightOf(2), 0);
    }

    private static void opens() {
        ShadowRegistry x = Check.taught(STREET + "law open a; law open a;");
        Check.due("open without a curfew", x.passDays(1), 0);
        x.setCurfew(0, 6, 6);
        Check.due("open with a curfew", x.passDays(1), 1);
        Check.due("hasCurfew(0)", x.hasCurfew(0), false);
    }

    /** A law sees what those ahead of it changed on the same day, and the day is counted behind all of them. */
    private static void turns() {
        ShadowRegistry x = Check.taught(STREET + "law curfew a from 6 to 18; law raise c by 1 when not dark b;"
            + "law open a; law raise c by 2 when dark b; law raise c by 4 when day = 1;");
        Check.due("passDays(1)", x.passDays(1), 4);
        Check.due("heightOf(2)", x.heightOf(2), 3);
        Check.due("passDays(1)", x.passDays(1), 5);
        Check.due("heightOf(2)", x.heightOf(2), 10);
        ShadowRegistry back = Check.taught(STREET + "law raise c by 2 when dark b; law curfew a from 6 to 18;");
        Check.due("passDays(1) in the other order", back.passDays(1), 2);
        Check.due("passDays(1) in the curfew", back.passDays(1), 0);
        ShadowRegistry after = Check.taught(STREET + "law raise c by day; law raise c by worst;");
        Check.due("lostAfter(1)", after.lostAfter(1), 6);
        Check.due("passDays(1)", after.passDays(1), 1);
        Check.due("heightOf(2) raised by 6", after.heightOf(2), 6);
        Check.due("passDays(1)", after.passDays(1), 2);
        Check.due("heightOf(2) raised by 1 and 6", after.heightOf(2), 13);
    }
}
