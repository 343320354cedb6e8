import java.util.ArrayList;
import java.util.List;

/** Fixed rows of made-up texts and calls, on which the class and the model, made apart from it, have to agree. */
public final class ModelTest {

    private static final int TEXTS = 6000;
    private static final int RUNS = 250;
    private static final int CALLS = 40;
    private static final String[] NAMES = {"a", "b", "c", "d", "e", "f", "g", "h", "i", "p", "q", "r", "s", "t", "u", "v"};
    private static final String[] PIECES = {"drone", "deal", "begin", "crash", "wake", "queen", "when", "honey", "moves",
        "gives", "gets", "day", "done", "blocked", "waits", "of", "awake", "not", "and", "or", "min", "max", "a", "b", "p",
        "0", "1", "20", "21", "60", "61", "999999", "1000000", "abcdefghij", "abcdefghijk", "(", ")", "[", "]", ";", ",",
        "+", "-", "*", "/", "<", ">", "=", "<=", ">=", "\n", " ", "?", "\u00e4", "\0", "A", "min(", "wake queen when ",
        "honey of ", "waits of ", "drone z honey 9;"};

    private static int seed = 20261120;

    public static void main(String[] args) {
        for (int i = 0; i < TEXTS; i++) {
            readAlike(broken(someText()));
        }
        for (int i = 0; i < RUNS; i++) {
            liveAlike(someText());
        }
        Check.finish();
    }

    /** The next of a fixed row of numbers, from 0 to below the bound. */
    private static int some(int bound) {
        seed = seed * 1103515245 + 12345;
        return (seed >>> 8) % bound;
    }

    private static String name(int from, int count) {
        return NAMES[from + (some(40) == 0 ? some(NAMES.length - from) : some(count))];
    }

    private static String someText() {
        StringBuilder text = new StringBuilder();
        int drones = 1 + some(some(12) == 0 ? 9 : 8);
        int deals = some(some(12) == 0 ? 8 : 7);
        int orders = some(some(12) == 0 ? 19 : 10);
        for (int i = 0; i < drones; i++) {
            text.append("drone ").append(NAMES[some(60) == 0 ? some(9) : i]).append(" honey ");
            text.append(some(some(30) == 0 ? 65 : 61)).append(";");
        }
        for (int i = 0; i < deals; i++) {
            text.append("deal ").append(NAMES[9 + (some(60) == 0 ? some(7) : i)]).append(" moves ");
            int parts = 1 + some(drones > 6 && some(20) > 0 ? 6 : drones);
            int first = some(drones);
            for (int j = 0; j < parts; j++) {
                int drone = some(90) == 0 ? some(9) : (first + j) % drones;
                text.append(j > 0 ? ", " : "").append(NAMES[drone]).append(some(2) == 0 ? " gives " : " gets ");
                text.append(some(50) == 0 ? some(23) : 1 + some(some(4) == 0 ? 20 : 5));
            }
            text.append(some(9) == 0 ? "\n ;" : ";");
        }
        for (int i = 0; i < orders && text.length() < 1300; i++) {
            text.append(someOrder(drones, deals)).append(';');
        }
        return text.toString();
    }

    private static String someOrder(int drones, int deals) {
        int sort = some(deals > 0 ? 8 : 4);
        String order = sort >= 4 ? "begin " + name(9, deals)
            : (sort % 2 == 0 ? "crash " : "wake ") + (some(4) == 0 ? "queen" : name(0, drones));
        return some(3) == 0 ? order : order + " when " + someTest(drones, deals, some(3));
    }

    private static String someTest(int drones, int deals, int size) {
        int sort = size == 0 ? 7 + some(3) : some(10);
        switch (sort) {
            case 0: case 1: return someTest(drones, deals, size - 1) + " or " + someTest(drones, deals, size - 1);
            case 2: case 3: return someTest(drones, deals, size - 1) + " and " + someTest(drones, deals, size - 1);
            case 4: return "not " + someTest(drones, deals, size - 1);
            case 5: return "[" + someTest(drones, deals, size - 1) + "]";
            case 6: return "awake " + (some(3) == 0 ? "queen" : name(0, drones));
            case 7: return "day / " + (2 + some(3)) + " * " + (2 + some(3)) + " <= day";
            default:
                String[] signs = {"<", ">", "=", "<=", ">="};
                return someSum(drones, deals, 2) + signs[some(5)] + someSum(drones, deals, 2);
        }
    }

    private static String someSum(int drones, int deals, int size) {
        if (size == 0) {
            switch (some(7)) {
                case 0: return "day";
                case 1: return "done";
                case 2: return "blocked";
                case 3: return "honey of " + name(0, drones);
                case 4: return deals > 0 ? "waits of " + name(9, deals) : "0";
                default: return Integer.toString(some(8) == 0 ? some(1000000) : some(7));
            }
        }
        String left = someSum(drones, deals, size - 1);
        String right = some(2) == 0 ? someSum(drones, deals, size - 1) : someSum(drones, deals, 0);
        switch (some(9)) {
            case 0: return left + "+" + right;
            case 1: return left + " - " + right;
            case 2: return left + "*" + right;
            case 3: return left + "/" + right;
            case 4: return "(" + left + ")";
            case 5: return "-" + left;
            case 6: return "min(" + left + "," + right + ")";
            case 7: return "max(" + left + ", " + right + ")";
            default: return right;
        }
    }

    /** The text, some of it cut out, put in, doubled or turned. */
    private static String broken(String text) {
        StringBuilder broken = new StringBuilder(text);
        int faults = some(3);
        for (int i = 0; i < faults; i++) {
            int at = some(broken.length() + 1);
            switch (some(6)) {
                case 0: broken.setLength(at); break;
                case 1: broken.delete(at, Math.min(broken.length(), at + 1 + some(9))); break;
                case 2: broken.insert(at, "([-".charAt(some(3)) + "-(".repeat(some(5)) + "not ".repeat(some(2))); break;
                default: broken.insert(at, " " + PIECES[some(PIECES.length)] + (some(2) == 0 ? " " : ""));
            }
        }
        return broken.length() > 2000 ? broken.substring(0, 2000) : broken.toString();
    }

    private static void readAlike(String text) {
        ModelText model = new ModelText(text);
        HoneyAccord hive = new HoneyAccord();
        Check.feed(hive, text);
        int error = hive.teach();
        Check.same("teach of " + text, model.error, error);
        Check.same("errorAt of " + text, model.errorAt, hive.errorAt());
        if (error == 0) {
            Check.so("what is told in " + text, new Model(model.tokens).all().equals(all(hive)));
        }
    }

    private static void liveAlike(String text) {
        ModelText read = new ModelText(text);
        if (read.error != 0) {
            readAlike(text);
            return;
        }
        Model model = new Model(read.tokens);
        HoneyAccord hive = Check.hive(text);
        for (int call = 0; call < CALLS; call++) {
            String what = "call " + call + " of " + text;
            callAlike(model, hive, what);
            List<Integer> due = model.all();
            List<Integer> got = all(hive);
            Check.so(what + ": due is " + due + ", answered was " + got, due.equals(got));
        }
    }

    private static void callAlike(Model model, HoneyAccord hive, String what) {
        String[] doings = {"begin", "begin", "crash", "wake", "wake", "crashQueen", "wakeQueen", "wakeQueen"};
        int days = 1 + some(some(5) == 0 ? 30 : 3);
        int sort = some(16);
        if (sort >= doings.length) {
            Check.same("passDays, " + what, model.passDays(days), hive.passDays(days));
            return;
        }
        String doing = doings[sort];
        int count = doing.equals("begin") ? hive.deals() : hive.drones();
        if (count > 0) {
            int number = some(count);
            Integer due = model.byHand(doing, number);
            Integer got = byHand(hive, doing, number);
            Check.so(doing + ", " + what + ": due is " + due + ", answered was " + got, due == null ? got == null : due.equals(got));
            foretellAlike(model, hive, days, what);
        }
    }

    private static void foretellAlike(Model model, HoneyAccord hive, int days, String what) {
        for (int drone = 0; drone < hive.drones(); drone++) {
            Check.same("honeyAfter, " + what, model.honeyAfter(drone, days), hive.honeyAfter(drone, days));
        }
        for (int deal = 0; deal < hive.deals(); deal++) {
            Check.same("stateAfter, " + what, model.stateAfter(deal, days), hive.stateAfter(deal, days));
        }
    }

    private static Integer byHand(HoneyAccord hive, String doing, int number) {
        try {
            switch (doing) {
                case "begin": return hive.begin(number);
                case "crash": return hive.crash(number);
                case "wake": return hive.wake(number);
                case "crashQueen": return hive.crashQueen();
                default: return hive.wakeQueen();
            }
        } catch (IllegalStateException refused) {
            return null;
        }
    }

    private static int bit(boolean so) {
        return so ? 1 : 0;
    }

    /** The answers of the class, in the row that Model.all() has. */
    private static List<Integer> all(HoneyAccord hive) {
        List<Integer> all = new ArrayList<>(List.of(hive.drones(), hive.deals(), hive.day(), hive.ordersCarriedOut(),
            hive.blocked(), hive.honey(), bit(hive.isQueenAwake()), hive.bestToWake()));
        for (int drone = 0; drone < hive.drones(); drone++) {
            all.addAll(List.of(hive.honeyOf(drone), bit(hive.isAwake(drone)), hive.blockedBy(drone), hive.logOf(drone),
                hive.daysUntilFree(drone)));
        }
        for (int deal = 0; deal < hive.deals(); deal++) {
            all.addAll(List.of(hive.stateOf(deal), hive.waitsOf(deal), hive.votesFor(deal), bit(hive.wouldAgree(deal)),
                hive.partsOf(deal)));
            for (int part = 0; part < hive.partsOf(deal); part++) {
                all.addAll(List.of(hive.droneIn(deal, part), hive.changeIn(deal, part), hive.voteIn(deal, part),
                    bit(hive.hasHeard(deal, part))));
            }
        }
        return all;
    }
}
