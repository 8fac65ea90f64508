import java.io.IOException;
import java.lang.reflect.Executable;
import java.lang.reflect.Field;
import java.lang.reflect.Method;
import java.lang.reflect.Modifier;
import java.nio.file.Files;
import java.nio.file.Path;
import java.util.ArrayList;
import java.util.List;
import java.util.Set;
import java.util.TreeSet;
import java.util.regex.Matcher;
import java.util.regex.Pattern;

/** The public face of the document, and those rules of LANGUAGE.md that can be seen in the class and its file. */
public final class FaceTest {
    private static final Path SOURCE = Path.of("src/main/java/ShadowRegistry.java");
    private static final String INDEX = " IndexOutOfBoundsException";
    private static final String ARGUMENT = " IllegalArgumentException";
    private static final String STATE = " IllegalStateException";
    private static final String[] FACE = {
        "int feed int int int int int" + STATE, "int trim int" + ARGUMENT, "int teach", "int errorAt", "int houses",
        "int laws", "int days", "int lawsCarriedOut", "int allHoursLost", "int lightHouses", "int worstHouse" + STATE,
        "int darkestWall" + STATE, "int placeOf int" + INDEX, "int heightOf int" + INDEX, "int hoursLost int" + INDEX,
        "int castBy int" + INDEX, "boolean hasCurfew int" + INDEX, "int curfewFrom int" + INDEX + STATE,
        "int curfewTo int" + INDEX + STATE, "int hoursLostTo int int" + INDEX, "int heightAt int int" + INDEX,
        "int shadowOf int int" + INDEX, "boolean shades int int int" + INDEX, "boolean isInTheDark int int" + INDEX,
        "int shadedBy int int" + INDEX + STATE, "int housesInTheDark int" + INDEX,
        "int setCurfew int int int" + INDEX + ARGUMENT, "int endCurfew int" + INDEX + STATE,
        "int build int int" + INDEX + ARGUMENT, "int move int int" + INDEX + ARGUMENT + STATE,
        "int passDays int" + ARGUMENT, "int lostAfter int" + ARGUMENT, "int daysUntilLight",
        "int fairCurfew int int" + INDEX + ARGUMENT, "int fairestWall int" + ARGUMENT, "double meanLost",
        "long digest"};
    /** Each call as the document tells it, under the heading that stands ahead of it. */
    private static final String[] INTERFACE = {
        "public ShadowRegistry()",
        "// ---- the language",
        "public int feed(int a, int b, int c, int d, int e) throws IllegalStateException",
        "public int trim(int n) throws IllegalArgumentException",
        "public int teach()",
        "public int errorAt()",
        "// ---- the registry",
        "public int houses()",
        "public int laws()",
        "public int days()",
        "public int lawsCarriedOut()",
        "public int allHoursLost()",
        "public int lightHouses()",
        "public int worstHouse() throws IllegalStateException",
        "public int darkestWall() throws IllegalStateException",
        "// ---- houses",
        "public int placeOf(int house) throws IndexOutOfBoundsException",
        "public int heightOf(int house) throws IndexOutOfBoundsException",
        "public int hoursLost(int house) throws IndexOutOfBoundsException",
        "public int castBy(int house) throws IndexOutOfBoundsException",
        "public boolean hasCurfew(int house) throws IndexOutOfBoundsException",
        "public int curfewFrom(int house) throws IndexOutOfBoundsException, IllegalStateException",
        "public int curfewTo(int house) throws IndexOutOfBoundsException, IllegalStateException",
        "public int hoursLostTo(int house, int by) throws IndexOutOfBoundsException",
        "// ---- hours",
        "public int heightAt(int house, int hour) throws IndexOutOfBoundsException",
        "public int shadowOf(int house, int hour) throws IndexOutOfBoundsException",
        "public boolean shades(int house, int other, int hour) throws IndexOutOfBoundsException",
        "public boolean isInTheDark(int house, int hour) throws IndexOutOfBoundsException",
        "public int shadedBy(int house, int hour) throws IndexOutOfBoundsException, IllegalStateException",
        "public int housesInTheDark(int hour) throws IndexOutOfBoundsException",
        "// ---- by hand",
        "public int setCurfew(int house, int from, int to) throws IndexOutOfBoundsException, IllegalArgumentException",
        "public int endCurfew(int house) throws IndexOutOfBoundsException, IllegalStateException",
        "public int build(int house, int height) throws IndexOutOfBoundsException, IllegalArgumentException",
        "public int move(int house, int place)"
            + " throws IndexOutOfBoundsException, IllegalArgumentException, IllegalStateException",
        "// ---- days and what would be",
        "public int passDays(int days) throws IllegalArgumentException",
        "public int lostAfter(int days) throws IllegalArgumentException",
        "public int daysUntilLight()",
        "public int fairCurfew(int house, int hours) throws IndexOutOfBoundsException, IllegalArgumentException",
        "public int fairestWall(int hours) throws IllegalArgumentException",
        "public double meanLost()",
        "public long digest()"};
    private static final Pattern CALL = Pattern.compile("\\b([A-Z]\\w*\\.\\w+)\\(");
    private static final Pattern OBJECT = Pattern.compile("new (\\w+)\\(");
    private static final Pattern THROW = Pattern.compile(
        " +throw new (IllegalState|IllegalArgument|IndexOutOfBounds)Exception\\(\"[a-z0-9 ]+\"\\);");
    private static final String[] RULED_OUT = {"import ", "package ", "->", "::", "synchronized", "assert", "finally",
        "catch", "System.out", "System.in", "nanoTime", "currentTimeMillis", "Random", "Exact(", "ordinal", "hashCode",
        "toString", "getMessage", "protected ", "static {", "@"};

    public static void main(String[] args) {
        Check.runAll(FaceTest.class);
    }

    static void thePublicFaceIsAFinalClassWithOneConstructor() {
        Class<?> made = ShadowRegistry.class;
        Check.due("the class is public and final", made.getModifiers(), Modifier.PUBLIC | Modifier.FINAL);
        Check.due("constructors", made.getDeclaredConstructors().length, 1);
        Check.due("its constructor is public", made.getConstructors().length, 1);
        Check.due("its constructor takes nothing", made.getConstructors()[0].getParameterCount(), 0);
        Check.due("its constructor throws nothing", made.getConstructors()[0].getExceptionTypes().length, 0);
    }

    static void thePublicFaceHasTheMethodsAndExceptionsOfTheDocumentAndNoOthers() {
        Class<?> made = ShadowRegistry.class;
        Set<String> due = new TreeSet<>(List.of(FACE));
        Set<String> found = new TreeSet<>();
        for (Method method : made.getDeclaredMethods()) {
            if (!Modifier.isPrivate(method.getModifiers())) {
                Check.due(method + " is public alone", method.getModifiers(), Modifier.PUBLIC);
                found.add(signature(method));
            }
        }
        Check.dueText("the face", found.toString(), due.toString());
        for (Field field : made.getDeclaredFields()) {
            Check.due(field + " is private", Modifier.isPrivate(field.getModifiers()), true);
        }
    }

    static void thePublicFaceStandsInTheFileAsInTheDocument() throws IOException {
        List<String> found = new ArrayList<>();
        String begun = "";
        for (String line : Files.readAllLines(SOURCE)) {
            if (line.startsWith("    // ---- ") && !line.endsWith("share")) {
                found.add(line.trim());
            } else if (line.startsWith("    public ") || !begun.isEmpty()) {
                begun = begun + (begun.isEmpty() ? "" : " ") + line.trim();
                if (begun.endsWith(" {")) {
                    found.add(begun.substring(0, begun.length() - 2));
                    begun = "";
                }
            }
        }
        Check.dueText("the face", String.join("\n", found), String.join("\n", INTERFACE));
    }

    private static String signature(Method method) {
        StringBuilder text = new StringBuilder(method.getReturnType().getSimpleName() + " " + method.getName());
        for (Class<?> type : method.getParameterTypes()) {
            text.append(' ').append(type.getSimpleName());
        }
        for (Class<?> type : method.getExceptionTypes()) {
            text.append(' ').append(type.getSimpleName());
        }
        return text.toString();
    }

    static void theClassesInsideAreFewAndNotPublic() {
        Set<String> names = new TreeSet<>();
        for (String line : FACE) {
            names.add(line.split(" ")[1]);
        }
        List<Class<?>> classes = new ArrayList<>(List.of(ShadowRegistry.class.getDeclaredClasses()));
        for (Class<?> inside : classes) {
            Check.due(inside + " is static", Modifier.isStatic(inside.getModifiers()), true);
            Check.due(inside + " is not public", Modifier.isPublic(inside.getModifiers()), false);
        }
        classes.add(ShadowRegistry.class);
        Check.due("some twelve classes", classes.size() <= 12, true);
        for (Class<?> one : classes) {
            int fields = 0;
            for (Field field : one.getDeclaredFields()) {
                fields += Modifier.isStatic(field.getModifiers()) ? 0 : 1;
                Check.due(field + " is final if it is static",
                    !Modifier.isStatic(field.getModifiers()) || Modifier.isFinal(field.getModifiers()), true);
            }
            Check.due(one + " has some twenty fields", fields <= 20, true);
            for (Method method : one.getDeclaredMethods()) {
                takesSeven(method);
                Check.due(method + " does not bear a public name",
                    names.contains(method.getName()) && !Modifier.isPublic(method.getModifiers()), false);
            }
        }
    }

    private static void takesSeven(Executable executable) {
        Check.due(executable + " takes at most seven", executable.getParameterCount() <= 7, true);
    }

    static void theFileCallsNoLibraryButWhatIsLeft() throws IOException {
        Set<String> left = new TreeSet<>(List.of("Math.abs", "Math.max", "Math.min", "Integer.bitCount",
            "System.arraycopy", "Kind.values", "Kind.lengthened"));
        Set<String> made = new TreeSet<>(List.of("Tape", "Tokens", "Parser", "Law", "Book", "Reckoner", "Street"));
        for (String line : Files.readAllLines(SOURCE)) {
            Matcher call = CALL.matcher(line);
            while (call.find()) {
                Check.due(call.group(1) + " is left, in " + line, left.contains(call.group(1)), true);
            }
            Matcher object = OBJECT.matcher(line);
            while (object.find() && !line.contains("throw ")) {
                Check.due(object.group(1) + " is of the file, in " + line, made.contains(object.group(1)), true);
            }
            if (line.contains("throw ")) {
                Check.due("this throws one of three: " + line, THROW.matcher(line).matches(), true);
            }
        }
    }

    static void theFileKeepsToThePartOfJavaThatIsLeft() throws IOException {
        List<String> lines = Files.readAllLines(SOURCE);
        int begin = 0;
        String end = "none";
        for (int i = 0; i < lines.size(); i++) {
            String line = lines.get(i);
            String what = "line " + (i + 1) + " of the file: " + line;
            Check.due(what + " is short", line.length() <= 120, true);
            for (int at = 0; at < line.length(); at++) {
                Check.due(what + " is of plain signs", line.charAt(at) >= 32 && line.charAt(at) < 127, true);
            }
            String begun = line.trim();
            boolean comment = begun.startsWith("//") || begun.startsWith("/*") || begun.startsWith("*");
            for (String word : RULED_OUT) {
                Check.due(what + " holds " + word, !comment && line.contains(word), false);
            }
            if (line.matches("( {4}| {8})[A-Za-z].*\\) *(throws [A-Za-z, ]+)?\\{")) {
                begin = i;
                end = line.startsWith("     ") ? "        }" : "    }";
            } else if (line.equals(end)) {
                Check.due(what + " ends a short method", i - begin < 60, true);
                end = "none";
            }
        }
    }
}
