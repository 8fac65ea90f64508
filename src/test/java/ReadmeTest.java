import java.io.IOException;
import java.lang.reflect.InvocationTargetException;
import java.lang.reflect.Method;
import java.lang.reflect.Modifier;
import java.nio.file.Files;
import java.nio.file.Path;
import java.util.ArrayList;
import java.util.List;
import java.util.Set;
import java.util.TreeSet;
import java.util.regex.Matcher;
import java.util.regex.Pattern;

/** The examples of README.md: one run of calls on one object, each with what it answers or throws. */
public final class ReadmeTest {
    private static final Path README = Path.of("README.md");
    private static final String MADE = "ShadowRegistry x = new ShadowRegistry();";
    private static final Pattern CALL = Pattern.compile("x\\.(\\w+)\\((.*)\\); +// (.+)");

    public static void main(String[] args) {
        Check.runAll(ReadmeTest.class);
    }

    private static List<String> examples() throws IOException {
        List<String> lines = new ArrayList<>();
        boolean inside = false;
        for (String line : Files.readAllLines(README)) {
            if (line.startsWith("```")) {
                inside = line.equals("```java");
            } else if (inside) {
                lines.add(line);
            }
        }
        return lines;
    }

    static void theExamplesAnswerWhatIsToldBehindThem() throws IOException, IllegalAccessException {
        List<String> lines = examples();
        Check.dueText("the first line of the examples", lines.get(0), MADE);
        ShadowRegistry x = new ShadowRegistry();
        for (String line : lines.subList(1, lines.size())) {
            Matcher call = CALL.matcher(line);
            Check.due("the line is a call: " + line, call.matches(), true);
            if (call.matches()) {
                Check.dueText(line, outcome(x, call.group(1), call.group(2)), call.group(3));
            }
        }
    }

    static void theExamplesMakeEachCallOfTheFaceAndNoMoreThan512() throws IOException {
        Set<String> made = new TreeSet<>();
        for (String line : examples()) {
            Matcher call = CALL.matcher(line);
            made.add(call.matches() ? call.group(1) : "");
        }
        Check.due("at most 512 calls", examples().size() <= 512, true);
        for (Method method : ShadowRegistry.class.getDeclaredMethods()) {
            if (Modifier.isPublic(method.getModifiers())) {
                Check.due("the examples make " + method.getName(), made.contains(method.getName()), true);
            }
        }
    }

    private static String outcome(ShadowRegistry x, String name, String given) throws IllegalAccessException {
        String[] words = given.isEmpty() ? new String[0] : given.split(", ");
        Class<?>[] types = new Class<?>[words.length];
        Object[] numbers = new Object[words.length];
        for (int i = 0; i < words.length; i++) {
            types[i] = int.class;
            numbers[i] = Integer.decode(words[i]);
        }
        try {
            return String.valueOf(ShadowRegistry.class.getMethod(name, types).invoke(x, numbers));
        } catch (NoSuchMethodException e) {
            return "no such call";
        } catch (InvocationTargetException e) {
            return "throws " + e.getCause().getClass().getSimpleName();
        }
    }
}
