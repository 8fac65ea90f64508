import java.lang.reflect.InvocationTargetException;
import java.lang.reflect.Method;
import java.lang.reflect.Modifier;
import java.util.Arrays;
import java.util.Comparator;
import java.util.function.LongSupplier;
import java.util.function.Supplier;
import java.util.function.ToLongFunction;

/** What the tests share: answers that are due, calls that are to be refused, and texts that are taught. */
final class Check {
    static final Class<IllegalStateException> STATE = IllegalStateException.class;
    static final Class<IllegalArgumentException> ARGUMENT = IllegalArgumentException.class;
    static final Class<IndexOutOfBoundsException> INDEX = IndexOutOfBoundsException.class;

    private static String test = "";
    private static int wrong = 0;
    private static int checks = 0;

    private Check() {
    }

    /** A call in which one number is tried out. */
    interface OfNumber {
        long answer(ShadowRegistry x, int number);
    }

    // ---- the tests of a class

    /** Runs each static method of the class that takes nothing, and ends the program with code 1 if one fails. */
    static void runAll(Class<?> tests) {
        Method[] methods = tests.getDeclaredMethods();
        Arrays.sort(methods, Comparator.comparing(Method::getName));
        int ran = 0;
        int failed = 0;
        for (Method method : methods) {
            if (Modifier.isStatic(method.getModifiers()) && !Modifier.isPrivate(method.getModifiers())
                    && method.getParameterCount() == 0) {
                ran++;
                failed += holds(method) ? 0 : 1;
            }
        }
        System.out.println(tests.getName() + ": " + ran + " tests, " + checks + " checks, " + failed + " tests failed");
        if (failed != 0 || ran == 0) {
            System.exit(1);
        }
    }

    private static boolean holds(Method method) {
        test = method.getName() + ": ";
        int wrongBefore = wrong;
        int checksBefore = checks;
        try {
            method.invoke(null);
        } catch (InvocationTargetException | IllegalAccessException e) {
            tellWrong("it ended with " + e.getCause());
        }
        if (checks == checksBefore) {
            tellWrong("it checks nothing");
        }
        return wrong == wrongBefore;
    }

    static void end(String tests) {
        System.out.println(tests + ": " + checks + " checks, " + wrong + " wrong");
        if (wrong != 0) {
            System.exit(1);
        }
    }

    private static void tellWrong(String what) {
        wrong++;
        System.out.println(test + what);
    }

    // ---- answers

    static void due(String what, long got, long want) {
        checks++;
        if (got != want) {
            tellWrong(what + " answered " + got + ", due is " + want);
        }
    }

    static void due(String what, boolean got, boolean want) {
        due(what, got ? 1 : 0, want ? 1 : 0);
    }

    static void dueBits(String what, double got, double want) {
        due(what, Double.doubleToRawLongBits(got), Double.doubleToRawLongBits(want));
    }

    static void dueText(String what, String got, String want) {
        checks++;
        if (!got.equals(want)) {
            tellWrong(what + " answered " + got + ", due is " + want);
        }
    }

    /** What the call answers, or the name of what it throws. */
    static String outcome(LongSupplier call) {
        try {
            return Long.toString(call.getAsLong());
        } catch (RuntimeException e) {
            return e.getClass().getName();
        }
    }

    // ---- refused calls

    /** On an object of this stage the call has to throw exactly this class, and to leave all as it is. */
    static void refused(String what, Class<? extends RuntimeException> due, Supplier<ShadowRegistry> stage,
            ToLongFunction<ShadowRegistry> call) {
        ShadowRegistry x = stage.get();
        dueText(what, outcome(() -> call.applyAsLong(x)), due.getName());
        dueText("all that follows a refused " + what, Story.of(x), Story.of(stage.get()));
    }

    /** On an object of this stage the call has to answer this, and to leave all as it is. */
    static void changesNothing(String what, long due, Supplier<ShadowRegistry> stage,
            ToLongFunction<ShadowRegistry> call) {
        ShadowRegistry x = stage.get();
        due(what, call.applyAsLong(x), due);
        dueText("all that follows " + what, Story.of(x), Story.of(stage.get()));
    }

    /** Of all numbers just those from the least to the most one are taken. */
    static void takes(String what, int least, int most, Class<? extends RuntimeException> otherwise,
            Supplier<ShadowRegistry> stage, OfNumber call) {
        for (int number = least; number <= most; number++) {
            int taken = number;
            ShadowRegistry x = stage.get();
            String outcome = outcome(() -> call.answer(x, taken));
            dueText(what + " of " + number + " throws", outcome.startsWith("java") ? outcome : "nothing", "nothing");
        }
        int[] others = {least - 1, most + 1, -most, -1 - most, 256 + least, 256 + most, 65536 + least, 65536 + most,
            Integer.MIN_VALUE, Integer.MIN_VALUE + least, Integer.MIN_VALUE + most, Integer.MAX_VALUE};
        for (int other : others) {
            if (other < least || other > most) {
                refused(what + " of " + other, otherwise, stage, x -> call.answer(x, other));
            }
        }
    }

    /** Of all houses just those that are there are taken: in a street without any, with one, and with all twelve. */
    static void takesHouses(String what, OfNumber call) {
        takes(what + " without houses, house", 0, -1, INDEX, Stage::none, call);
        takes(what + " with one house, house", 0, 0, INDEX, Stage::one, call);
        takes(what + " with twelve houses, house", 0, 11, INDEX, Stage::full, call);
    }

    /** Of all hours just 0 to 23 are taken. */
    static void takesHours(String what, OfNumber call) {
        takes(what + ", hour", 0, 23, INDEX, Stage::full, call);
    }

    // ---- texts

    /** Makes the text all that is on the tape; every char is one byte. */
    static void tape(ShadowRegistry x, String text) {
        x.trim(0);
        for (int i = 0; i < text.length(); i += 20) {
            x.feed(four(text, i), four(text, i + 4), four(text, i + 8), four(text, i + 12), four(text, i + 16));
        }
        x.trim(text.length());
    }

    static int four(String text, int from) {
        int number = 0;
        for (int i = from; i < from + 4; i++) {
            number = (number << 8) | (i < text.length() ? text.charAt(i) & 255 : ' ');
        }
        return number;
    }

    /** A new object that has been taught the text, which has no error. */
    static ShadowRegistry taught(String text) {
        ShadowRegistry x = new ShadowRegistry();
        tape(x, text);
        due("teach() of " + text, x.teach(), 0);
        return x;
    }

    /** The text has no error. */
    static void good(String text) {
        ShadowRegistry x = Stage.midway();
        tape(x, text);
        due("teach() of " + text, x.teach(), 0);
        due("errorAt() of " + text, x.errorAt(), -1);
    }

    /** The text with a mark has this error where the mark ~ stands. */
    static void error(int error, String marked) {
        error(error, marked.indexOf('~'), marked.replace("~", ""));
    }

    /** The text has this error at this position, and all stays as it was told before. */
    static void error(int error, int at, String text) {
        ShadowRegistry x = Stage.midway();
        tape(x, text);
        due("teach() of " + text, x.teach(), error);
        due("errorAt() of " + text, x.errorAt(), at);
        ShadowRegistry spared = Stage.midway();
        spared.trim(0);
        dueText("all that follows the error of " + text, Story.behindError(x), Story.behindError(spared));
    }
}
