/** Promises 26 to 30: what can be done by hand. */
public final class HandTest {

    private static final String HIVE = "drone a honey 10; drone b honey 10; drone c honey 10;"
        + "deal p moves a gives 1, b gets 1; deal q moves c gives 1; deal r moves c gives 20, a gets 1;";

    public static void main(String[] args) {
        beginCounts();
        beginNeedsTheQueen();
        beginNeedsAnEnd();
        beginOfNone();
        crashAndWakeCount();
        crashAndWakeOfNone();
        crashKeepsWhatWasSaid();
        queenCrashes();
        queenWakes();
        Check.finish();
    }

    private static void beginCounts() {
        HoneyAccord hive = Check.hive(HIVE);
        Check.same("first", 1, hive.begin(2));
        Check.same("second", 2, hive.begin(0));
        Check.same("its state", 1, hive.stateOf(0));
        Check.same("the state of the other", 0, hive.stateOf(1));
        hive.passDays(1);
        Check.same("those that are over do not count", 1, hive.begin(1));
    }

    private static void beginNeedsTheQueen() {
        HoneyAccord hive = Check.hive(HIVE);
        hive.crashQueen();
        Check.cannot("begin without the queen", () -> hive.begin(0));
        Check.same("it rests on", 0, hive.stateOf(0));
        hive.wakeQueen();
        Check.same("with her", 1, hive.begin(0));
    }

    private static void beginNeedsAnEnd() {
        HoneyAccord hive = Check.hive(HIVE);
        hive.begin(0);
        Check.cannot("begin of what is begun", () -> hive.begin(0));
        hive.passDays(1);
        Check.same("granted and heard", 1, hive.begin(0));
        hive.crash(1);
        hive.passDays(1);
        Check.cannot("begin of what waits", () -> hive.begin(0));
        hive.passDays(3);
        Check.same("refused", 3, hive.stateOf(0));
        Check.cannot("begin of what b has not heard", () -> hive.begin(0));
        hive.wake(1);
        hive.passDays(1);
        Check.same("refused and heard", 1, hive.begin(0));
        Check.same("waits begins anew", 0, hive.waitsOf(0));
        hive.crash(0);
        hive.passDays(4);
        Check.so("b has heard", hive.hasHeard(0, 1));
        Check.cannot("begin of what a has not heard", () -> hive.begin(0));
    }

    private static void beginOfNone() {
        HoneyAccord hive = Check.hive(HIVE);
        hive.crashQueen();
        for (int deal : new int[] {-1, 3, 6, Integer.MIN_VALUE, Integer.MAX_VALUE}) {
            Check.noSuch("begin " + deal, () -> hive.begin(deal));
        }
    }

    private static void crashAndWakeCount() {
        HoneyAccord hive = Check.hive(HIVE);
        Check.same("crash c", 2, hive.crash(2));
        Check.cannot("crash c again", () -> hive.crash(2));
        Check.same("crash a", 1, hive.crash(0));
        Check.cannot("wake b", () -> hive.wake(1));
        Check.same("wake c", 2, hive.wake(2));
        Check.so("c is awake", hive.isAwake(2));
        Check.notSo("a is asleep", hive.isAwake(0));
        hive.crashQueen();
        Check.same("wake a without the queen", 3, hive.wake(0));
    }

    private static void crashAndWakeOfNone() {
        HoneyAccord hive = Check.hive(HIVE);
        for (int drone : new int[] {-1, 3, 8, Integer.MIN_VALUE, Integer.MAX_VALUE}) {
            Check.noSuch("crash " + drone, () -> hive.crash(drone));
            Check.noSuch("wake " + drone, () -> hive.wake(drone));
        }
        Check.so("the queen is none of them", hive.isQueenAwake());
    }

    private static void crashKeepsWhatWasSaid() {
        HoneyAccord hive = Check.hive(HIVE);
        hive.crash(1);
        hive.begin(0);
        hive.passDays(1);
        hive.crash(0);
        Check.same("a is blocked asleep", 0, hive.blockedBy(0));
        hive.wake(1);
        hive.passDays(1);
        Check.same("the yes of a counts", 2, hive.stateOf(0));
        Check.same("b has got", 11, hive.honeyOf(1));
        Check.same("a has not heard", 10, hive.honeyOf(0));
        Check.same("a is blocked on", 0, hive.blockedBy(0));
        hive.wake(0);
        hive.passDays(1);
        Check.same("a gives as it hears", 9, hive.honeyOf(0));
        Check.same("a is free", -1, hive.blockedBy(0));
    }

    private static void queenCrashes() {
        HoneyAccord hive = Check.hive(HIVE);
        hive.begin(0);
        hive.begin(1);
        Check.same("two are begun", 2, hive.crashQueen());
        Check.same("they stay so", 1, hive.stateOf(0));
        Check.cannot("she sleeps", () -> hive.crashQueen());
        Check.same("of a new object", 0, new HoneyAccord().crashQueen());
    }

    private static void queenWakes() {
        HoneyAccord hive = Check.hive(HIVE);
        Check.cannot("she is awake", () -> hive.wakeQueen());
        hive.begin(1);
        hive.passDays(1);
        hive.begin(0);
        hive.begin(2);
        Check.cannot("nothing is refused as she is awake", () -> hive.wakeQueen());
        Check.same("deal 0 is begun on", 1, hive.stateOf(0));
        hive.crashQueen();
        Check.same("two are refused", 2, hive.wakeQueen());
        Check.same("deal 0", 3, hive.stateOf(0));
        Check.same("deal 2", 3, hive.stateOf(2));
        Check.same("deal 1 stays granted", 2, hive.stateOf(1));
        Check.notSo("none has heard yet", hive.hasHeard(0, 0));
        Check.cannot("it has to be heard first", () -> hive.begin(0));
        hive.crashQueen();
        Check.same("none is refused", 0, hive.wakeQueen());
    }
}
