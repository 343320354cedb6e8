/** Long runs of calls: nothing throws but what the document names, and answers about what would be come true. */
public final class ManyRunsTest {

    private static final int RUNS = 300;
    private static final int CALLS = 150;
    private static final String[] PIECES = {"drone ", "deal ", "begin ", "crash ", "wake ", "queen", " when ", " honey ",
        " moves ", " gives ", " gets ", "a", "b", "p", "x1", "5", "61", "1234567", ", ", ";", "(", ")", "[", "]", "-", "not ",
        "min(", "= ", "<=", "1 < 2", "awake a", "honey of a", "waits of p", " and ", " or ", "day", "?", "\n", "\u00ff"};
    private static final String[] TESTS = {"", " when day / 2 * 2 = day", " when awake queen and blocked > 0",
        " when not awake b", " when waits of p >= 2 or waits of q = 1", " when done / 3 * 3 = done",
        " when honey of a + honey of b > honey of c * 2", " when day - day / 5 * 5 = 3", " when day / blocked = 0"};
    private static final String[] DOINGS = {"begin p", "begin q", "begin r", "crash a", "wake a", "crash b", "wake b",
        "crash c", "wake c", "crash queen", "wake queen", "wake queen"};

    private static int seed = 1;

    public static void main(String[] args) {
        for (int run = 0; run < RUNS; run++) {
            textsOfAllSorts();
            hivesOfAllSorts(run);
        }
        Check.finish();
    }

    /** The next of a fixed row of numbers, from 0 to below the bound. */
    private static int some(int bound) {
        seed = seed * 1103515245 + 12345;
        return (seed >>> 8) % bound;
    }

    private static void textsOfAllSorts() {
        HoneyAccord hive = new HoneyAccord();
        StringBuilder text = new StringBuilder(some(2) == 0 ? "drone a honey 3; deal p moves a gives 1; wake a" : "");
        int pieces = some(12);
        for (int i = 0; i < pieces; i++) {
            text.append(PIECES[some(PIECES.length)]);
        }
        Check.feed(hive, text.toString());
        int error = hive.teach();
        int at = hive.errorAt();
        Check.so("the error of " + text, error >= 0 && error <= 5);
        Check.so("its position", error == 0 ? at == -1 : at >= 0 && at <= text.length());
        hive.digest();
    }

    private static String someHive() {
        StringBuilder text = new StringBuilder("drone a honey ").append(some(61)).append(";drone b honey ").append(some(10));
        text.append(";drone c honey ").append(some(61)).append(";deal p moves a gives ").append(1 + some(20));
        text.append(", b gets ").append(1 + some(20)).append(";deal q moves b gives ").append(1 + some(4));
        text.append(", c gets 2, a gets 3;deal r moves c gives 20;");
        int orders = some(17);
        for (int i = 0; i < orders; i++) {
            text.append(DOINGS[some(DOINGS.length)]).append(TESTS[some(TESTS.length)]).append(';');
        }
        return text.toString();
    }

    private static void hivesOfAllSorts(int run) {
        String text = someHive();
        HoneyAccord hive = Check.hive(text);
        for (int call = 0; call < CALLS; call++) {
            int number = some(9) == 0 ? some(20) - 10 : some(3);
            byHand(hive, some(5), number);
            boolean sane = true;
            for (int drone = 0; drone < 3; drone++) {
                sane = sane && hive.honeyOf(drone) >= 0 && hive.honeyOf(drone) <= 99;
            }
            Check.so("honey is 0 to 99 in " + text, sane);
            if (some(4) == 0) {
                comesTrue(hive, 1 + some(30), text);
            }
        }
        Check.same("drones of run " + run, 3, hive.drones());
    }

    private static void comesTrue(HoneyAccord hive, int days, String text) {
        long before = hive.digest();
        int[] honey = new int[3];
        int[] states = new int[3];
        int[] free = new int[3];
        for (int i = 0; i < 3; i++) {
            honey[i] = hive.honeyAfter(i, days);
            states[i] = hive.stateAfter(i, days);
            free[i] = hive.daysUntilFree(i);
        }
        Check.same("asking changes nothing in " + text, before, hive.digest());
        for (int day = 0; day < days; day++) {
            for (int i = 0; i < 3; i++) {
                boolean isFree = hive.blockedBy(i) == -1;
                boolean due = day == free[i] ? isFree : day > free[i] && free[i] >= 0 || !isFree;
                Check.so("drone " + i + " is free as was told in " + text, due);
            }
            hive.passDays(1);
        }
        for (int i = 0; i < 3; i++) {
            Check.same("honey of " + i + " in " + text, honey[i], hive.honeyOf(i));
            Check.same("state of " + i + " in " + text, states[i], hive.stateOf(i));
        }
    }

    /** What throws has to change nothing. */
    private static void byHand(HoneyAccord hive, int doing, int number) {
        long before = hive.digest();
        try {
            switch (doing) {
                case 0: hive.begin(number); break;
                case 1: hive.crash(number); break;
                case 2: hive.wake(number); break;
                case 3: hive.crashQueen(); break;
                default: hive.wakeQueen();
            }
        } catch (RuntimeException thrown) {
            boolean none = doing < 3 && (number < 0 || number > 2);
            Class<?> due = none ? IndexOutOfBoundsException.class : IllegalStateException.class;
            Check.so("what is thrown is " + due, thrown.getClass() == due);
            Check.same("what throws changes nothing", before, hive.digest());
        }
    }
}
