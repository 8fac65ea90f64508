/**
 * Runs of calls on new objects, each answer compared with that of PlainRegistry. The runs are made by a row of numbers
 * that is the same each time.
 */
public final class ModelTest {
    private static final int RUNS = 300;
    // All calls of a run, with those of the last text that is told, stay within the 512 of an object.
    private static final int MOST_CALLS = 380;
    private static final String[] NAMES = {"a", "b", "c", "d1", "e", "f", "g", "h2h", "i", "j", "k", "abcdefghij", "m"};
    private static final String[] SPARE = {"house", "at", "high", "law", "curfew", "from", "to", "open", "raise", "by",
        "when", "day", "lost", "cast", "height", "worst", "of", "shades", "dark", "not", "and", "or", "min", "max", "(",
        ")", "[", "]", ";", ",", "+", "-", "*", "/", "<", ">", "=", "<=", ">=", "a", "b", "q", "7", "123456", "1234567",
        "abcdefghijk", "?", "A", "\t", "\0"};

    private static long seed = 1;

    private ShadowRegistry x;
    private PlainRegistry y;
    private String tape = "";
    private int houses;

    public static void main(String[] args) {
        for (int run = 1; run <= RUNS; run++) {
            seed = run * 7919L;
            new ModelTest().run(run);
        }
        Check.end("ModelTest");
    }

    private static int any(int below) {
        seed = seed * 6364136223846793005L + 1442695040888963407L;
        return (int) ((seed >>> 33) % below);
    }

    private static int from(int least, int most) {
        return least + any(most - least + 1);
    }

    private static boolean oneIn(int count) {
        return any(count) == 0;
    }

    // ---- texts

    private String text() {
        houses = oneIn(10) ? any(3) : from(2, 12);
        StringBuilder text = new StringBuilder();
        int spread = oneIn(3) ? 3 : 8;
        int place = any(4);
        // not from the west to the east: places in the order of a row that goes over all of them
        int turn = oneIn(2) ? 1 : 5;
        int[] places = new int[12];
        for (int i = 0; i < 12; i++) {
            places[i] = Math.min(99, place);
            place += from(1, spread);
        }
        for (int i = 0; i < houses; i++) {
            int at = oneIn(90) ? from(0, 130) : places[i * turn % 12];
            text.append("house ").append(oneIn(200) ? name() : NAMES[i]).append(" at ").append(at);
            text.append(" high ").append(oneIn(120) ? from(29, 40) : oneIn(3) ? any(4) : any(31)).append(";\n");
        }
        int laws = oneIn(20) ? 17 : any(9);
        for (int i = 0; i < laws && houses > 0; i++) {
            text.append("law ").append(order());
            text.append(oneIn(3) ? "" : " when " + test(0)).append(";");
        }
        if (oneIn(60)) {
            text.append("house ").append(NAMES[any(13)]).append(" at 99 high 5; house m at 98 high 3;");
        }
        return text.toString();
    }

    private String name() {
        return oneIn(150) ? NAMES[any(13)] : NAMES[any(Math.max(houses, 1))];
    }

    private String order() {
        switch (any(5)) {
            case 0: return "open " + name();
            case 1: return "raise " + name() + " by " + (oneIn(2) ? from(0, 3) + "" : sum(1));
            case 2: return "raise " + name() + " by -" + from(0, 4);
            default: return "curfew " + name() + " from " + hour() + " to " + hour();
        }
    }

    private String hour() {
        return oneIn(2) ? from(4, 20) + "" : sum(1);
    }

    private String test(int depth) {
        int kind = any(depth > 3 ? 6 : 11);
        switch (kind) {
            case 0: return "shades " + name() + " " + name();
            case 1: return "dark " + name();
            case 6: return "not " + test(depth + 1);
            case 7: return "[" + test(depth + 1) + "]";
            case 8: return test(depth + 1) + " and " + test(depth + 1);
            case 9: return test(depth + 1) + " or " + test(depth + 1);
            default: return sum(depth) + new String[] {"<", ">", "=", "<=", " >= "}[any(5)] + sum(depth + 1);
        }
    }

    private String sum(int depth) {
        int kind = any(depth > 3 ? 7 : 16);
        switch (kind) {
            case 0: return from(0, 12) + "";
            case 1: return (oneIn(3) ? from(0, 999999) : from(0, 30)) + "";
            case 2: return "day";
            case 3: return "worst";
            case 4: return "lost of " + name();
            case 5: return "cast of " + name();
            case 6: return "height of " + name();
            case 7: return "-" + sum(depth + 1);
            case 8: return "(" + sum(depth + 1) + ")";
            case 9: return "min(" + sum(depth + 1) + "," + sum(depth + 1) + ")";
            case 10: return "max (" + sum(depth + 1) + " , " + sum(depth + 1) + ")";
            case 11: return sum(depth + 1) + " * " + sum(depth + 1);
            case 12: return sum(depth + 1) + "/" + sum(depth + 1);
            case 13: return sum(depth + 1) + "-" + sum(depth + 1);
            case 14: return "day / 3 * 3 - day";
            default: return sum(depth + 1) + " + " + sum(depth + 1);
        }
    }

    /** The text with some tokens, or bytes, put in, left out or put elsewhere. */
    private static String spoilt(String text) {
        StringBuilder other = new StringBuilder(text);
        for (int times = from(1, 2); times > 0 && other.length() > 0; times--) {
            int at = any(other.length());
            switch (any(4)) {
                case 0: other.deleteCharAt(at); break;
                case 1: other.insert(at, SPARE[any(SPARE.length)]); break;
                case 2: other.insert(at, " " + SPARE[any(SPARE.length)] + " "); break;
                default: other.setLength(oneIn(4) ? at : other.length()); break;
            }
        }
        return other.toString();
    }

    /** Many brackets and signs, so that the depth is about 8. */
    private String deep() {
        StringBuilder text = new StringBuilder("law open a when ");
        StringBuilder ends = new StringBuilder();
        for (int i = from(0, 4); i > 0; i--) {
            boolean not = oneIn(2);
            text.append(not ? "not " : "[");
            ends.insert(0, not ? "" : "]");
        }
        if (oneIn(2)) {
            return text + "dark a" + ends + ";";
        }
        StringBuilder inner = new StringBuilder();
        for (int i = from(2, 5); i > 0; i--) {
            String[] begins = {"(", "-", "min(1,", "max(2*"};
            String[] finishes = {")", "", ")", ",3)"};
            int kind = any(4);
            text.append(begins[kind]);
            inner.insert(0, finishes[kind]);
        }
        return text + "worst" + inner + " = 1" + ends + ";";
    }

    // ---- calls

    private void run(int run) {
        x = new ShadowRegistry();
        y = new PlainRegistry();
        int calls = 0;
        while (calls < MOST_CALLS) {
            if (calls == 0 || oneIn(25)) {
                calls += tell();
            } else {
                call("run " + run);
                calls++;
            }
        }
        Check.due("run " + run + ": digest", x.digest(), y.digest());
    }

    private int tell() {
        String text = text();
        if (oneIn(8) && houses > 0) {
            text = text + deep() + deep();
        }
        if (oneIn(4)) {
            text = spoilt(text);
        }
        text = text.substring(0, Math.min(text.length(), 1999));
        int calls = 3;
        for (int i = 0; i < text.length(); i += 20) {
            feed(Check.four(text, i), Check.four(text, i + 4), Check.four(text, i + 8), Check.four(text, i + 12),
                Check.four(text, i + 16));
            calls++;
        }
        int length = text.length();
        compare("trim", () -> x.trim(length), () -> y.trim(length));
        if (oneIn(30)) {
            compare("trim more", () -> x.trim(length / 2), () -> y.trim(length / 2));
        }
        tape = text;
        compare("teach", () -> x.teach(), () -> y.teach());
        compare("errorAt", () -> x.errorAt(), () -> y.errorAt());
        compare("digest", () -> x.digest(), () -> y.digest());
        return calls;
    }

    private void feed(int a, int b, int c, int d, int e) {
        compare("feed", () -> x.feed(a, b, c, d, e), () -> y.feed(a, b, c, d, e));
    }

    private void compare(String what, java.util.function.LongSupplier got, java.util.function.LongSupplier due) {
        String outcome = Check.outcome(got);
        Check.dueText(what + " (last told: " + tape + ")", outcome, Check.outcome(due));
    }

    private int anyHouse() {
        return oneIn(25) ? from(-2, 13) : oneIn(200) ? Integer.MIN_VALUE : any(Math.max(y.houses(), 1));
    }

    private static int anyHour() {
        return oneIn(6) ? from(-1, 24) : from(6, 18);
    }

    private void call(String run) {
        int h = anyHouse();
        int o = anyHouse();
        int t = anyHour();
        int n = oneIn(12) ? from(-1, 32) : from(1, 6);
        int r = oneIn(12) ? from(-1, 15) : from(1, 13);
        String what = run + " with " + h + " " + o + " " + t + " " + n + " " + r + ", call ";
        int kind = any(34);
        what = what + kind;
        switch (kind) {
            case 0: compare(what, () -> x.lightHouses(), () -> y.lightHouses()); break;
            case 1: compare(what, () -> x.worstHouse(), () -> y.worstHouse()); break;
            case 2: compare(what, () -> x.darkestWall(), () -> y.darkestWall()); break;
            case 3: compare(what, () -> x.placeOf(h), () -> y.placeOf(h)); break;
            case 4: compare(what, () -> x.heightOf(h), () -> y.heightOf(h)); break;
            case 5: compare(what, () -> x.hoursLost(h), () -> y.hoursLost(h)); break;
            case 6: compare(what, () -> x.castBy(h), () -> y.castBy(h)); break;
            case 7: compare(what, () -> bit(x.hasCurfew(h)), () -> bit(y.hasCurfew(h))); break;
            case 8: compare(what, () -> x.curfewFrom(h), () -> y.curfewFrom(h)); break;
            case 9: compare(what, () -> x.curfewTo(h), () -> y.curfewTo(h)); break;
            case 10: compare(what, () -> x.hoursLostTo(h, o), () -> y.hoursLostTo(h, o)); break;
            case 11: compare(what, () -> x.heightAt(h, t), () -> y.heightAt(h, t)); break;
            case 12: compare(what, () -> x.shadowOf(h, t), () -> y.shadowOf(h, t)); break;
            case 13: compare(what, () -> bit(x.shades(h, o, t)), () -> bit(y.shades(h, o, t))); break;
            case 14: compare(what, () -> bit(x.isInTheDark(h, t)), () -> bit(y.isInTheDark(h, t))); break;
            case 15:
            case 16: compare(what, () -> x.shadedBy(h, t), () -> y.shadedBy(h, t)); break;
            case 17: compare(what, () -> x.housesInTheDark(t), () -> y.housesInTheDark(t)); break;
            case 18:
                int to = oneIn(10) ? anyHour() : from(Math.min(Math.max(t, 6), 18), 18);
                compare(what, () -> x.setCurfew(h, t, to), () -> y.setCurfew(h, t, to));
                break;
            case 19: compare(what, () -> x.endCurfew(h), () -> y.endCurfew(h)); break;
            case 20:
                int height = oneIn(12) ? from(-1, 31) : any(31);
                compare(what, () -> x.build(h, height), () -> y.build(h, height));
                break;
            case 21:
                int place = oneIn(3) ? from(-1, 100) : any(60);
                compare(what, () -> x.move(h, place), () -> y.move(h, place));
                break;
            case 22:
            case 23: compare(what, () -> x.passDays(n), () -> y.passDays(n)); break;
            case 24: compare(what, () -> x.lostAfter(n), () -> y.lostAfter(n)); break;
            case 25: compare(what, () -> x.daysUntilLight(), () -> y.daysUntilLight()); break;
            case 26: compare(what, () -> x.fairCurfew(h, r), () -> y.fairCurfew(h, r)); break;
            case 27: compare(what, () -> x.fairestWall(r), () -> y.fairestWall(r)); break;
            case 28:
                compare(what, () -> Double.doubleToLongBits(x.meanLost()), () -> Double.doubleToLongBits(y.meanLost()));
                break;
            case 29: compare(what, () -> x.digest(), () -> y.digest()); break;
            case 30: compare(what, () -> x.laws() * 100L + x.houses(), () -> y.laws() * 100L + y.houses()); break;
            case 31: compare(what, () -> x.lawsCarriedOut(), () -> y.lawsCarriedOut()); break;
            case 32: compare(what, () -> x.days() * 100L + x.errorAt(), () -> y.days() * 100L + y.errorAt()); break;
            default: compare(what, () -> x.allHoursLost(), () -> y.allHoursLost()); break;
        }
    }

    private static long bit(boolean holds) {
        return holds ? 1 : 0;
    }
}
