import java.util.ArrayList;
import java.util.Arrays;
import java.util.List;
import java.util.regex.Matcher;
import java.util.regex.Pattern;

/**
 * A second reading of the document, slow and plain: tokens by a regular expression, the grammar by a stack of what is
 * still to come, sums and tests straight from the tokens, shadows anew at each question. It shares nothing with the
 * class, so that a slip in one of them shows.
 */
final class PlainRegistry {
    private static final Pattern TOKEN = Pattern.compile("[a-z][a-z0-9]*|[0-9]+|<=|>=|[()\\[\\];,+\\-*/<>=]");
    private static final List<String> KEYWORDS = Arrays.asList(("house at high law curfew from to open raise by when day"
        + " lost cast height worst of shades dark not and or min max").split(" "));
    private static final List<String> VALUES =
        Arrays.asList("number", "day", "worst", "lost", "cast", "height", "-", "(", "min", "max");
    private static final List<String> COMPARISONS = Arrays.asList("<", ">", "=", "<=", ">=");

    static final class Token {
        final String text;
        final String kind;
        final int at;

        Token(String text, String kind, int at) {
            this.text = text;
            this.kind = kind;
            this.at = at;
        }
    }

    static final class House {
        String name;
        int place;
        int height;
        int from = -1;
        int to = -1;

        House copy() {
            House house = new House();
            house.name = name;
            house.place = place;
            house.height = height;
            house.from = from;
            house.to = to;
            return house;
        }
    }

    private StringBuilder tape = new StringBuilder();
    private int errorAt = -1;
    private List<House> houses = new ArrayList<>();
    private List<List<Token>> laws = new ArrayList<>();
    private int days;
    private int carriedOut;

    // ---- the language

    int feed(int... numbers) {
        if (tape.length() + 20 > 2000) {
            throw new IllegalStateException();
        }
        for (int number : numbers) {
            for (int i = 3; i >= 0; i--) {
                tape.append((char) ((number >>> (8 * i)) & 255));
            }
        }
        return tape.length();
    }

    int trim(int n) {
        if (n < 0 || n > tape.length()) {
            throw new IllegalArgumentException();
        }
        tape.setLength(n);
        return n;
    }

    int teach() {
        String text = tape.toString();
        tape = new StringBuilder();
        List<Token> tokens = new ArrayList<>();
        errorAt = firstError(text, tokens);
        if (errorAt >= 0) {
            return 1;
        }
        List<House> newHouses = new ArrayList<>();
        List<List<Token>> newLaws = new ArrayList<>();
        int error = laterError(tokens, newHouses, newLaws);
        if (error == 0) {
            houses = newHouses;
            laws = newLaws;
            days = 0;
            carriedOut = 0;
        }
        return error;
    }

    int errorAt() {
        return errorAt;
    }

    private static Token tokenAt(String text, int from) {
        int at = from;
        while (at < text.length() && (text.charAt(at) == 32 || text.charAt(at) == 10)) {
            at++;
        }
        if (at == text.length()) {
            return new Token("", "end", at);
        }
        Matcher matcher = TOKEN.matcher(text).region(at, text.length());
        if (!matcher.lookingAt()) {
            return new Token("", "none", at);
        }
        String found = matcher.group();
        char first = found.charAt(0);
        if (Character.isDigit(first)) {
            return new Token(found, found.length() > 6 ? "none" : "number", at);
        }
        if (Character.isLetter(first) && !KEYWORDS.contains(found)) {
            return new Token(found, found.length() > 10 ? "none" : "name", at);
        }
        return new Token(found, found, at);
    }

    /** Where error 1 is, or -1. What is still to come stands in toCome, the next at its end; UP ends a depth. */
    private static int firstError(String text, List<Token> tokens) {
        List<String> toCome = new ArrayList<>();
        toCome.add("registry");
        int depth = 0;
        int at = 0;
        while (true) {
            Token token = tokenAt(text, at);
            if (tokens.size() == 400 && !token.kind.equals("end")) {
                return token.at;
            }
            boolean taken = false;
            while (!taken) {
                if (toCome.isEmpty()) {
                    return token.kind.equals("end") ? -1 : token.at;
                }
                String next = toCome.remove(toCome.size() - 1);
                if (next.equals("UP")) {
                    depth--;
                } else if (next.startsWith("deep ")) {
                    depth++;
                    if (depth > 8 || !next.substring(5).equals(token.kind)) {
                        return token.at;
                    }
                    taken = true;
                } else {
                    String instead = expanded(next, token.kind);
                    if (instead != null) {
                        String[] parts = instead.isEmpty() ? new String[0] : instead.split("\\|");
                        for (int i = parts.length - 1; i >= 0; i--) {
                            toCome.add(parts[i]);
                        }
                    } else if (next.equals(token.kind)) {
                        taken = true;
                    } else {
                        return token.at;
                    }
                }
            }
            tokens.add(token);
            at = token.at + token.text.length();
        }
    }

    /** What stands for a part of the grammar if this kind of token comes; null for what is itself a token. */
    private static String expanded(String part, String kind) {
        switch (part) {
            case "registry": return kind.equals("end") ? "" : "line|;|registry";
            case "line": return kind.equals("house") ? "house|name|at|number|high|number" : "law|order|when?";
            case "order":
                return kind.equals("curfew") ? "curfew|name|from|sum|to|sum"
                    : kind.equals("open") ? "open|name" : "raise|name|by|sum";
            case "when?": return kind.equals("when") ? "when|test" : "";
            case "test": return "both|or?";
            case "or?": return kind.equals("or") ? "or|both|or?" : "";
            case "both": return "single|and?";
            case "and?": return kind.equals("and") ? "and|single|and?" : "";
            case "single":
                return kind.equals("not") ? "deep not|single|UP" : kind.equals("[") ? "deep [|test|]|UP"
                    : kind.equals("shades") ? "shades|name|name" : kind.equals("dark") ? "dark|name"
                    : "sum|comparison|sum";
            case "comparison": return COMPARISONS.contains(kind) ? kind : "<";
            case "sum": return "product|plus?";
            case "plus?": return kind.equals("+") || kind.equals("-") ? kind + "|product|plus?" : "";
            case "product": return "value|times?";
            case "times?": return kind.equals("*") || kind.equals("/") ? kind + "|value|times?" : "";
            case "value":
                if (!VALUES.contains(kind)) {
                    return "number";
                }
                return kind.equals("lost") || kind.equals("cast") || kind.equals("height") ? kind + "|of|name"
                    : kind.equals("-") ? "deep -|value|UP" : kind.equals("(") ? "deep (|sum|)|UP"
                    : kind.equals("min") || kind.equals("max") ? kind + "|deep (|sum|,|sum|)|UP" : kind;
            default: return null;
        }
    }

    private int laterError(List<Token> tokens, List<House> newHouses, List<List<Token>> newLaws) {
        List<Token> line = new ArrayList<>();
        for (int i = 0; i < tokens.size(); i++) {
            Token token = tokens.get(i);
            errorAt = token.at;
            String ahead = i == 0 ? "" : tokens.get(i - 1).kind;
            if (token.kind.equals("name") && ahead.equals("house")) {
                if (find(newHouses, token.text) >= 0) {
                    return 2;
                }
                if (newHouses.size() == 12) {
                    return 4;
                }
            } else if (token.kind.equals("name")) {
                if (find(newHouses, token.text) < 0) {
                    return 3;
                }
            } else if (token.kind.equals("law") && newLaws.size() == 16) {
                return 4;
            } else if (ahead.equals("at")) {
                int place = Integer.parseInt(token.text);
                if (place > 99 || newHouses.stream().anyMatch(house -> house.place == place)) {
                    return 5;
                }
            } else if (ahead.equals("high") && Integer.parseInt(token.text) > 30) {
                return 5;
            }
            if (!token.kind.equals(";")) {
                line.add(token);
            } else if (line.get(0).kind.equals("house")) {
                House house = new House();
                house.name = line.get(1).text;
                house.place = Integer.parseInt(line.get(3).text);
                house.height = Integer.parseInt(line.get(5).text);
                newHouses.add(house);
                line = new ArrayList<>();
            } else {
                // so that each reading of a part may look one token ahead
                line.add(token);
                newLaws.add(line);
                line = new ArrayList<>();
            }
        }
        errorAt = -1;
        return 0;
    }

    private static int find(List<House> houses, String name) {
        for (int i = 0; i < houses.size(); i++) {
            if (houses.get(i).name.equals(name)) {
                return i;
            }
        }
        return -1;
    }

    // ---- a day

    private List<Token> row;
    private int next;

    private String kind() {
        return row.get(next).kind;
    }

    private boolean skip(String kind) {
        if (kind().equals(kind)) {
            next++;
            return true;
        }
        return false;
    }

    private int house() {
        return find(houses, row.get(next++).text);
    }

    private boolean test() {
        boolean holds = both();
        while (skip("or")) {
            holds |= both();
        }
        return holds;
    }

    private boolean both() {
        boolean holds = single();
        while (skip("and")) {
            holds &= single();
        }
        return holds;
    }

    private boolean single() {
        if (skip("not")) {
            return !single();
        }
        if (skip("[")) {
            boolean holds = test();
            next++;
            return holds;
        }
        if (skip("shades")) {
            int first = house();
            int second = house();
            return hoursLostTo(second, first) > 0;
        }
        if (skip("dark")) {
            return hoursLost(house()) > 0;
        }
        int left = sum();
        String sign = row.get(next++).kind;
        int right = sum();
        return sign.equals("<") && left < right || sign.equals(">") && left > right || sign.equals("=") && left == right
            || sign.equals("<=") && left <= right || sign.equals(">=") && left >= right;
    }

    private int sum() {
        long sum = product();
        while (kind().equals("+") || kind().equals("-")) {
            sum = skip("+") ? (int) (sum + product()) : (int) (sum - (skip("-") ? product() : 0));
        }
        return (int) sum;
    }

    private int product() {
        long product = value();
        while (kind().equals("*") || kind().equals("/")) {
            if (skip("*")) {
                product = (int) (product * value());
            } else {
                next++;
                long right = value();
                product = right == 0 ? 0 : (int) (product / right);
            }
        }
        return (int) product;
    }

    private int value() {
        Token token = row.get(next++);
        switch (token.kind) {
            case "number": return Integer.parseInt(token.text);
            case "day": return days;
            case "worst":
                int worst = 0;
                for (int i = 0; i < houses.size(); i++) {
                    worst = Math.max(worst, hoursLost(i));
                }
                return worst;
            case "-": return (int) -(long) value();
            case "(":
                int inside = sum();
                next++;
                return inside;
            case "min":
            case "max":
                next++;
                int left = sum();
                next++;
                int right = sum();
                next++;
                return left < right == token.kind.equals("min") ? left : right;
            default:
                next++;
                int house = house();
                return token.kind.equals("lost") ? hoursLost(house)
                    : token.kind.equals("cast") ? castBy(house) : houses.get(house).height;
        }
    }

    private void passDay() {
        for (List<Token> law : laws) {
            row = law;
            next = 1;
            String order = row.get(next++).kind;
            House house = houses.get(house());
            int first = 0;
            int second = 0;
            if (!order.equals("open")) {
                next++;
                first = sum();
            }
            if (order.equals("curfew")) {
                next++;
                second = sum();
            }
            if (skip("when") && !test()) {
                continue;
            }
            String before = house.from + " " + house.to + " " + house.height;
            if (order.equals("open")) {
                house.from = -1;
                house.to = -1;
            } else if (order.equals("raise")) {
                house.height = (int) Math.max(0L, Math.min(30L, (long) house.height + first));
            } else {
                int from = Math.max(6, Math.min(18, first));
                int to = Math.max(6, Math.min(18, second));
                if (from <= to) {
                    house.from = from;
                    house.to = to;
                }
            }
            if (!before.equals(house.from + " " + house.to + " " + house.height)) {
                carriedOut++;
            }
        }
        days++;
    }

    private PlainRegistry copy() {
        PlainRegistry other = new PlainRegistry();
        for (House house : houses) {
            other.houses.add(house.copy());
        }
        other.laws = laws;
        other.days = days;
        other.carriedOut = carriedOut;
        return other;
    }

    // ---- the registry

    int houses() {
        return houses.size();
    }

    int laws() {
        return laws.size();
    }

    int days() {
        return days;
    }

    int lawsCarriedOut() {
        return carriedOut;
    }

    int allHoursLost() {
        int lost = 0;
        for (int i = 0; i < houses.size(); i++) {
            lost += hoursLost(i);
        }
        return lost;
    }

    int lightHouses() {
        int light = 0;
        for (int i = 0; i < houses.size(); i++) {
            light += hoursLost(i) == 0 ? 1 : 0;
        }
        return light;
    }

    int worstHouse() {
        if (houses.isEmpty()) {
            throw new IllegalStateException();
        }
        int worst = houses.size() - 1;
        for (int i = worst; i >= 0; i--) {
            worst = hoursLost(i) >= hoursLost(worst) ? i : worst;
        }
        return worst;
    }

    int darkestWall() {
        if (houses.isEmpty()) {
            throw new IllegalStateException();
        }
        int darkest = houses.size() - 1;
        for (int i = darkest; i >= 0; i--) {
            darkest = castBy(i) >= castBy(darkest) ? i : darkest;
        }
        return darkest;
    }

    // ---- houses

    private House known(int house) {
        if (house < 0 || house >= houses.size()) {
            throw new IndexOutOfBoundsException();
        }
        return houses.get(house);
    }

    private static void knownHour(int hour) {
        if (hour < 0 || hour > 23) {
            throw new IndexOutOfBoundsException();
        }
    }

    int placeOf(int house) {
        return known(house).place;
    }

    int heightOf(int house) {
        return known(house).height;
    }

    int hoursLost(int house) {
        known(house);
        int lost = 0;
        for (int hour = 6; hour <= 18; hour++) {
            lost += isInTheDark(house, hour) ? 1 : 0;
        }
        return lost;
    }

    int castBy(int house) {
        known(house);
        int cast = 0;
        for (int other = 0; other < houses.size(); other++) {
            cast += hoursLostTo(other, house);
        }
        return cast;
    }

    boolean hasCurfew(int house) {
        return known(house).from >= 0;
    }

    int curfewFrom(int house) {
        if (!hasCurfew(house)) {
            throw new IllegalStateException();
        }
        return known(house).from;
    }

    int curfewTo(int house) {
        if (!hasCurfew(house)) {
            throw new IllegalStateException();
        }
        return known(house).to;
    }

    int hoursLostTo(int house, int by) {
        known(house);
        known(by);
        int lost = 0;
        for (int hour = 6; hour <= 18; hour++) {
            lost += shades(by, house, hour) ? 1 : 0;
        }
        return lost;
    }

    // ---- hours

    int heightAt(int house, int hour) {
        known(house);
        knownHour(hour);
        House it = houses.get(house);
        return it.from != -1 && hour >= it.from && hour <= it.to ? 0 : it.height;
    }

    int shadowOf(int house, int hour) {
        int height = heightAt(house, hour);
        return hour < 6 || hour > 18 ? 0 : height * (hour < 12 ? 12 - hour : hour - 12) / 2;
    }

    boolean shades(int house, int other, int hour) {
        known(house);
        known(other);
        knownHour(hour);
        if (house == other || hour < 6 || hour > 18 || hour == 12) {
            return false;
        }
        int from = houses.get(house).place;
        int to = houses.get(other).place;
        if (hour < 12 != to < from) {
            return false;
        }
        int steps = hour < 12 ? 12 - hour : hour - 12;
        int away = to < from ? from - to : to - from;
        return away <= shadowOf(house, hour)
            && (heightAt(house, hour) * steps - 2 * away) / steps > heightAt(other, hour);
    }

    boolean isInTheDark(int house, int hour) {
        known(house);
        knownHour(hour);
        boolean dark = false;
        for (int other = 0; other < houses.size(); other++) {
            dark |= shades(other, house, hour);
        }
        return dark;
    }

    int shadedBy(int house, int hour) {
        if (!isInTheDark(house, hour)) {
            throw new IllegalStateException();
        }
        int nearest = -1;
        for (int other = 0; other < houses.size(); other++) {
            if (shades(other, house, hour) && (nearest < 0
                || Math.abs(placeOf(other) - placeOf(house)) < Math.abs(placeOf(nearest) - placeOf(house)))) {
                nearest = other;
            }
        }
        return nearest;
    }

    int housesInTheDark(int hour) {
        knownHour(hour);
        int dark = 0;
        for (int house = 0; house < houses.size(); house++) {
            dark += isInTheDark(house, hour) ? 1 : 0;
        }
        return dark;
    }

    // ---- by hand

    int setCurfew(int house, int from, int to) {
        known(house);
        if (from < 6 || to > 18 || to < from) {
            throw new IllegalArgumentException();
        }
        houses.get(house).from = from;
        houses.get(house).to = to;
        return allHoursLost();
    }

    int endCurfew(int house) {
        if (!hasCurfew(house)) {
            throw new IllegalStateException();
        }
        houses.get(house).from = -1;
        houses.get(house).to = -1;
        return allHoursLost();
    }

    int build(int house, int height) {
        int before = known(house).height;
        if (height < 0 || height > 30) {
            throw new IllegalArgumentException();
        }
        houses.get(house).height = height;
        return before;
    }

    int move(int house, int place) {
        int before = known(house).place;
        if (place < 0 || place > 99) {
            throw new IllegalArgumentException();
        }
        for (House other : houses) {
            if (other != houses.get(house) && other.place == place) {
                throw new IllegalStateException();
            }
        }
        houses.get(house).place = place;
        return before;
    }

    // ---- days and what would be

    int passDays(int count) {
        if (count < 1 || count > 30) {
            throw new IllegalArgumentException();
        }
        int before = carriedOut;
        for (int i = 0; i < count; i++) {
            passDay();
        }
        return carriedOut - before;
    }

    int lostAfter(int count) {
        PlainRegistry other = copy();
        other.passDays(count);
        return other.allHoursLost();
    }

    int daysUntilLight() {
        PlainRegistry other = copy();
        for (int day = 0; day <= 30; day++) {
            if (other.allHoursLost() == 0) {
                return day;
            }
            other.passDay();
        }
        return -1;
    }

    int fairCurfew(int house, int hours) {
        known(house);
        if (hours < 1 || hours > 13) {
            throw new IllegalArgumentException();
        }
        int fairest = -1;
        for (int from = 18; from >= 6; from--) {
            if (from + hours <= 19 && (fairest < 0
                || lostWith(house, from, hours) <= lostWith(house, fairest, hours))) {
                fairest = from;
            }
        }
        return fairest;
    }

    private int lostWith(int house, int from, int hours) {
        return copy().setCurfew(house, from, from + hours - 1);
    }

    int fairestWall(int hours) {
        if (hours < 1 || hours > 13) {
            throw new IllegalArgumentException();
        }
        int fairest = -1;
        int fewest = Integer.MAX_VALUE;
        for (int house = 0; house < houses.size(); house++) {
            int lost = lostWith(house, fairCurfew(house, hours), hours);
            if (lost < fewest) {
                fewest = lost;
                fairest = house;
            }
        }
        return fewest < allHoursLost() ? fairest : -1;
    }

    double meanLost() {
        return houses.isEmpty() ? 0 : allHoursLost() / (double) houses.size();
    }

    long digest() {
        List<Integer> numbers = new ArrayList<>(Arrays.asList(houses(), laws(), days(), lawsCarriedOut(), allHoursLost(),
            lightHouses()));
        for (int house = 0; house < houses.size(); house++) {
            numbers.addAll(Arrays.asList(placeOf(house), heightOf(house), houses.get(house).from, houses.get(house).to,
                hoursLost(house), castBy(house)));
            for (int by = 0; by < houses.size(); by++) {
                numbers.add(hoursLostTo(house, by));
            }
        }
        for (int hour = 6; hour <= 18; hour++) {
            numbers.add(housesInTheDark(hour));
        }
        long d = 1013;
        for (int number : numbers) {
            d = d * 31 + number;
        }
        return d;
    }
}
