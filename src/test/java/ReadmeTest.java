import java.io.IOException;
import java.lang.reflect.Method;
import java.lang.reflect.Modifier;
import java.nio.file.Files;
import java.nio.file.Path;
import java.util.ArrayList;
import java.util.Collections;
import java.util.List;
import java.util.regex.Matcher;
import java.util.regex.Pattern;
import java.util.stream.Collectors;
import java.util.stream.Stream;

/** What README.md says is so: its programs stand here as they stand there, and its tables are read. */
public final class ReadmeTest {

    private static final Path SOURCES = Path.of("src/test/java");

    public static void main(String[] args) throws IOException {
        String page = Files.readString(Path.of("README.md"));
        programsStandHere(page);
        answersAreAsTold(page);
        textsAreHives(page);
        errorsAreAsTold(page);
        callsAreThoseOfTheClass(page);
        testsAreThoseThatThereAre(page);
        Check.finish();
    }

    // ---- the programs of the page, to the letter

    static void tell(HoneyAccord hive, String text) {
        int[] w = new int[5];
        for (int from = 0; from < text.length(); from += 20) {
            for (int i = 0; i < 20; i++) {
                int sign = from + i < text.length() ? text.charAt(from + i) : ' ';
                w[i / 4] = w[i / 4] << 8 | sign & 255;
            }
            hive.feed(w[0], w[1], w[2], w[3], w[4]);
        }
    }

    private static int[] answers() {
        HoneyAccord hive = new HoneyAccord();
        tell(hive, "drone ann honey 10; drone bob honey 3;\n"
            + "deal feast moves ann gives 4, bob gets 4;\n"
            + "begin feast when day = 0 and awake bob;\n");
        int error = hive.teach();             // 0, so it is a hive
        int hearings = hive.passDays(1);      // 2: both voted yes, and both heard that the feast is granted
        int ann = hive.honeyOf(0);            // 6
        int bob = hive.honeyOf(1);            // 7
        int awake = hive.crash(1);            // 1 drone is awake, as bob sleeps
        int begun = hive.begin(0);            // 1 deal is begun, by hand
        int none = hive.passDays(1);          // 0: ann voted yes, and waits for bob
        int blocker = hive.blockedBy(0);      // 0, the feast
        int days = hive.daysUntilFree(0);     // 3, as it is refused then if bob sleeps on
        int state = hive.stateAfter(0, 3);    // 3, refused
        int later = hive.honeyAfter(0, 30);   // 6, as it keeps its honey
        int best = hive.bestToWake();         // 1, bob
        int both = hive.wake(1);              // 2 drones are awake
        int again = hive.passDays(1);         // 2 hear that it is granted
        int end = hive.honeyOf(1);            // 11
        return new int[] {error, hearings, ann, bob, awake, begun, none, blocker, days, state, later, best, both, again, end};
    }

    // ---- what is checked of it

    private static void programsStandHere(String page) throws IOException {
        String here = plain(Files.readString(SOURCES.resolve("ReadmeTest.java")));
        List<String> programs = blocks(page, "java");
        Check.same("programs of the page", 2, programs.size());
        for (String program : programs) {
            Check.so("this program of the page stands in ReadmeTest: " + program, here.contains(plain(program)));
        }
    }

    /** The lines without what stands in front of and behind them. */
    private static String plain(String text) {
        return text.lines().map(String::strip).collect(Collectors.joining("\n"));
    }

    private static List<String> blocks(String page, String kind) {
        return found(page, "(?s)```" + kind + "\n(.*?)```");
    }

    /** What the first group of the pattern is, each time that it is found. */
    private static List<String> found(String text, String pattern) {
        List<String> all = new ArrayList<>();
        Matcher matcher = Pattern.compile(pattern).matcher(text);
        while (matcher.find()) {
            all.add(matcher.group(1));
        }
        return all;
    }

    private static void answersAreAsTold(String page) {
        List<String> told = found(blocks(page, "java").get(1), "// (-?\\d+)");
        int[] got = answers();
        Check.same("answers that the page tells", told.size(), got.length);
        for (int i = 0; i < got.length && i < told.size(); i++) {
            Check.same("answer " + i + " of the page", Integer.parseInt(told.get(i)), got[i]);
        }
    }

    private static void textsAreHives(String page) {
        String text = blocks(page, "text").get(0);
        HoneyAccord hive = new HoneyAccord();
        tell(hive, text);
        Check.same("teach of the page's text", 0, hive.teach());
        Check.same("its drones", 2, hive.drones());
        Check.same("its deals", 1, hive.deals());
    }

    private static void errorsAreAsTold(String page) {
        List<String> errors = found(page, "(?m)^\\| (\\d) \\|");
        List<String> examples = found(page, "(?m)^\\| \\d \\|.*\\| `([^`]*)` \\|$");
        Check.same("errors", 5, errors.size());
        Check.same("examples of errors", 5, examples.size());
        for (int i = 0; i < examples.size(); i++) {
            Check.same("number of error " + errors.get(i), i + 1, Integer.parseInt(errors.get(i)));
            Check.wrong(i + 1, examples.get(i));
        }
    }

    private static void callsAreThoseOfTheClass(String page) {
        List<String> told = new ArrayList<>();
        for (String row : found(page, "(?m)^\\| (`\\w+ \\w+\\(.*)\\|$")) {
            String[] cells = row.split("\\|", -1);
            Check.same("cells of " + row, 3, cells.length);
            Check.notSo("an answer is told in " + row, cells[1].isBlank());
            String throwing = String.join(" ", found(cells[2], "`(\\w+Exception)`"));
            told.add(cells[0].replace("`", "").strip() + " " + throwing);
        }
        List<String> due = new ArrayList<>();
        for (Method method : HoneyAccord.class.getDeclaredMethods()) {
            if (Modifier.isPublic(method.getModifiers())) {
                due.add(method.getReturnType() + " " + method.getName() + "(" + names(method.getParameterTypes(), ", ") + ") "
                    + names(method.getExceptionTypes(), " "));
            }
        }
        Collections.sort(due);
        Collections.sort(told);
        Check.so("the page tells the calls " + told + ", and those of the class are " + due, due.equals(told));
    }

    private static String names(Class<?>[] types, String between) {
        return Stream.of(types).map(Class::getSimpleName).collect(Collectors.joining(between));
    }

    private static void testsAreThoseThatThereAre(String page) throws IOException {
        List<String> told = new ArrayList<>(found(page, "(?m)^\\| `(\\w+Test)` \\|"));
        Collections.sort(told);
        try (Stream<Path> files = Files.list(SOURCES)) {
            List<String> there = files.map(f -> f.getFileName().toString()).filter(f -> f.endsWith("Test.java"))
                .map(f -> f.replace(".java", "")).sorted().collect(Collectors.toList());
            Check.so("the page tells the tests " + told + ", and there are " + there, told.equals(there));
        }
    }
}
