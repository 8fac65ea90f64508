import java.util.function.LongSupplier;

/** What the tests share: answers that are due, exceptions that are due, and the tape. */
final class Check {
    private static int wrong = 0;
    private static int checks = 0;

    private Check() {
    }

    static void due(String what, long got, long want) {
        checks++;
        if (got != want) {
            wrong++;
            System.out.println(what + " answered " + got + ", due is " + want);
        }
    }

    static void due(String what, boolean got, boolean want) {
        due(what, got ? 1 : 0, want ? 1 : 0);
    }

    static void dueText(String what, String got, String want) {
        checks++;
        if (!got.equals(want)) {
            wrong++;
            System.out.println(what + " answered " + got + ", due is " + want);
        }
    }

    /** The call has to throw exactly this class, and to leave the digest as it is. */
    static void raises(String what, Class<? extends RuntimeException> due, ShadowRegistry x, LongSupplier call) {
        long before = x.digest();
        dueText(what, outcome(call), due.getName());
        due(what + " leaves the digest", x.digest(), before);
    }

    /** What the call answers, or the name of what it throws. */
    static String outcome(LongSupplier call) {
        try {
            return Long.toString(call.getAsLong());
        } catch (RuntimeException e) {
            return e.getClass().getName();
        }
    }

    /** Makes the text all that is on the tape; every char is one byte. */
    static void tape(ShadowRegistry x, String text) {
        x.trim(0);
        for (int i = 0; i < text.length(); i += 20) {
            x.feed(four(text, i), four(text, i + 4), four(text, i + 8), four(text, i + 12), four(text, i + 16));
        }
        x.trim(text.length());
    }

    static int four(String text, int from) {
        int number = 0;
        for (int i = from; i < from + 4; i++) {
            number = (number << 8) | (i < text.length() ? text.charAt(i) & 255 : ' ');
        }
        return number;
    }

    /** A new object that has been taught the text, which has no error. */
    static ShadowRegistry taught(String text) {
        ShadowRegistry x = new ShadowRegistry();
        tape(x, text);
        due("teach() of " + text, x.teach(), 0);
        return x;
    }

    static void end(String test) {
        System.out.println(test + ": " + checks + " checks, " + wrong + " wrong");
        if (wrong != 0) {
            System.exit(1);
        }
    }
}
