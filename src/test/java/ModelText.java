import java.util.ArrayDeque;
import java.util.ArrayList;
import java.util.Arrays;
import java.util.HashMap;
import java.util.HashSet;
import java.util.List;
import java.util.Map;
import java.util.Set;
import java.util.regex.Matcher;
import java.util.regex.Pattern;

/**
 * A second reading of section 1, made apart from the class: the grammar is held as rules, and all rests that could
 * still follow are held at once, so that error 1 is where none is left.
 */
final class ModelText {

    /** What stands in a rule for a step into or out of a depth. */
    private static final String DEEPER = "{+}";
    private static final String BACK = "{-}";

    private static final Set<String> KEYWORDS = new HashSet<>(Arrays.asList(("drone honey deal moves gives gets begin crash"
        + " wake queen when day done blocked waits of awake not and or min max").split(" ")));
    private static final Pattern TOKEN = Pattern.compile("[a-z][a-z0-9]*|[0-9]+|<=|>=|[()\\[\\];,+*/<>=-]");

    private static final Map<String, String[]> RULES = new HashMap<>();

    static {
        RULES.put("Hive", new String[] {"", "Line ; Hive"});
        RULES.put("Line", new String[] {"drone #name honey #number", "deal #name moves Part Parts", "Order", "Order when Test"});
        RULES.put("Parts", new String[] {"", ", Part Parts"});
        RULES.put("Part", new String[] {"#name gives #number", "#name gets #number"});
        RULES.put("Order", new String[] {"begin #name", "crash #name", "crash queen", "wake #name", "wake queen"});
        RULES.put("Test", new String[] {"Both", "Both or Test"});
        RULES.put("Both", new String[] {"Single", "Single and Both"});
        RULES.put("Single", new String[] {"not {+} Single {-}", "[ {+} Test {-} ]", "awake #name", "awake queen",
            "Sum Sign Sum"});
        RULES.put("Sign", new String[] {"<", ">", "=", "<=", ">="});
        RULES.put("Sum", new String[] {"Product Sums"});
        RULES.put("Sums", new String[] {"", "+ Product Sums", "- Product Sums"});
        RULES.put("Product", new String[] {"Value Values"});
        RULES.put("Values", new String[] {"", "* Value Values", "/ Value Values"});
        RULES.put("Value", new String[] {"#number", "day", "done", "blocked", "honey of #name", "waits of #name",
            "- {+} Value {-}", "( {+} Sum {-} )", "min ( {+} Sum , Sum {-} )", "max ( {+} Sum , Sum {-} )"});
    }

    /** What could follow: the symbols that are due, and the depth where they begin. */
    private record Rest(List<String> due, int depth) {
    }

    final List<String> tokens = new ArrayList<>();
    private final List<Integer> starts = new ArrayList<>();
    int error;
    int errorAt = -1;

    ModelText(String tape) {
        int broken = firstBroken(tape);
        if (broken >= 0) {
            error = 1;
            errorAt = broken;
        } else {
            lookAtNames();
        }
    }

    private int firstBroken(String tape) {
        Set<Rest> rests = Set.of(new Rest(List.of("Hive"), 0));
        Matcher matcher = TOKEN.matcher(tape);
        int at = behindGaps(tape, 0);
        while (at < tape.length()) {
            matcher.region(at, tape.length());
            if (tokens.size() == 400 || !matcher.lookingAt() || isTooLong(matcher.group())) {
                return at;
            }
            String token = matcher.group();
            rests = behind(rests, sortOf(token));
            if (rests.isEmpty()) {
                return at;
            }
            tokens.add(token);
            starts.add(at);
            at = behindGaps(tape, matcher.end());
        }
        return behind(rests, "").isEmpty() ? tape.length() : -1;
    }

    private static int behindGaps(String tape, int at) {
        int end = at;
        while (end < tape.length() && " \n".indexOf(tape.charAt(end)) >= 0) {
            end++;
        }
        return end;
    }

    private static boolean isTooLong(String token) {
        return token.length() > (Character.isDigit(token.charAt(0)) ? 6 : 10);
    }

    private static String sortOf(String token) {
        char first = token.charAt(0);
        if (first >= '0' && first <= '9') {
            return "#number";
        }
        return first >= 'a' && first <= 'z' && !KEYWORDS.contains(token) ? "#name" : token;
    }

    /** The rests behind the token; with the token "" those that may be empty. */
    private static Set<Rest> behind(Set<Rest> rests, String token) {
        Set<Rest> found = new HashSet<>();
        ArrayDeque<Rest> open = new ArrayDeque<>(rests);
        Set<Rest> seen = new HashSet<>(rests);
        while (!open.isEmpty()) {
            Rest rest = open.pop();
            if (rest.due().isEmpty()) {
                if (token.isEmpty()) {
                    found.add(rest);
                }
                continue;
            }
            String first = rest.due().get(0);
            List<String> others = rest.due().subList(1, rest.due().size());
            if (first.equals(token)) {
                addUnlessTooDeep(found, others, rest.depth());
            } else if (first.equals(BACK)) {
                addNew(open, seen, new Rest(others, rest.depth() - 1));
            } else if (RULES.containsKey(first)) {
                for (String way : RULES.get(first)) {
                    List<String> due = new ArrayList<>(way.isEmpty() ? List.of() : Arrays.asList(way.split(" ")));
                    due.addAll(others);
                    addNew(open, seen, new Rest(due, rest.depth()));
                }
            }
        }
        return found;
    }

    private static void addNew(ArrayDeque<Rest> open, Set<Rest> seen, Rest rest) {
        if (seen.add(rest)) {
            open.push(rest);
        }
    }

    private static void addUnlessTooDeep(Set<Rest> found, List<String> due, int depth) {
        if (due.isEmpty() || !due.get(0).equals(DEEPER)) {
            found.add(new Rest(new ArrayList<>(due), depth));
        } else if (depth < 8) {
            found.add(new Rest(new ArrayList<>(due.subList(1, due.size())), depth + 1));
        }
    }

    private void lookAtNames() {
        List<String> drones = new ArrayList<>();
        List<String> deals = new ArrayList<>();
        List<String> parts = new ArrayList<>();
        int orders = 0;
        for (int i = 0; i < tokens.size() && error == 0; i++) {
            String token = tokens.get(i);
            String ahead = i < 1 ? ";" : tokens.get(i - 1);
            String farAhead = i < 2 ? ";" : tokens.get(i - 2);
            int told = 0;
            if (ahead.equals("drone") || ahead.equals("deal")) {
                List<String> names = ahead.equals("drone") ? drones : deals;
                told = drones.contains(token) || deals.contains(token) ? 2
                    : names.size() == (ahead.equals("drone") ? 8 : 6) ? 4 : 0;
                names.add(token);
                parts.clear();
            } else if (isPart(i)) {
                told = !drones.contains(token) ? 3 : parts.size() >= 6 ? 4 : parts.contains(token) ? 5 : 0;
                parts.add(token);
            } else if (ahead.equals(";") && List.of("begin", "crash", "wake").contains(token)) {
                orders++;
                told = orders > 16 ? 4 : 0;
            } else if (ahead.equals("begin") || ahead.equals("of") && farAhead.equals("waits")) {
                told = deals.contains(token) ? 0 : 3;
            } else if (List.of("crash", "wake", "awake", "of").contains(ahead) && !token.equals("queen")) {
                told = drones.contains(token) ? 0 : 3;
            } else if (ahead.equals("honey")) {
                told = !token.equals("of") && Integer.parseInt(token) > 60 ? 5 : 0;
            } else if (ahead.equals("gives") || ahead.equals("gets")) {
                told = Integer.parseInt(token) < 1 || Integer.parseInt(token) > 20 ? 5 : 0;
            }
            error = told;
            errorAt = told == 0 ? -1 : starts.get(i);
        }
    }

    private boolean isPart(int i) {
        return i + 1 < tokens.size() && (tokens.get(i + 1).equals("gives") || tokens.get(i + 1).equals("gets"));
    }
}
