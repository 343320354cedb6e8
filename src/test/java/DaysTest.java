/** Promises 31 to 37: how days go, what would be, the mean and the checksum. */
public final class DaysTest {

    private static final String PAIR = "drone a honey 10; drone b honey 10; drone c honey 10;"
        + "deal p moves a gives 4, b gets 4, c gets 1; ";

    public static void main(String[] args) {
        daysThatAreNone();
        hearingsAreCounted();
        ordersGoInTheirOrder();
        ordersThatCannotBeDone();
        eachOrderHasItsOwnTest();
        testsLookAtTheHive();
        testsReckonIn32Bits();
        bindingOfSigns();
        votesGoDealByDeal();
        noVotesWithoutTheQueen();
        oneNoRefuses();
        patienceEnds();
        newsFromADrone();
        newsGoFromOneToTheNext();
        newsOnlyFromTheAwake();
        newsOnlyFromWhoHasHeard();
        queenWakingByOrderRefuses();
        whatWouldBe();
        whatWouldBeOfNone();
        daysToBeFree();
        daysToBeFreeAtTheBound();
        whomToWake();
        whomToWakeOfSeveral();
        meanOfHoney();
        checksum();
        Check.finish();
    }

    private static void daysThatAreNone() {
        HoneyAccord hive = Check.hive(PAIR);
        for (int days : new int[] {0, 31, -1, Integer.MIN_VALUE, Integer.MAX_VALUE}) {
            Check.notAllowed("passDays " + days, () -> hive.passDays(days));
            Check.notAllowed("honeyAfter " + days, () -> hive.honeyAfter(0, days));
            Check.notAllowed("stateAfter " + days, () -> hive.stateAfter(0, days));
            Check.noSuch("honeyAfter of none " + days, () -> hive.honeyAfter(3, days));
            Check.noSuch("stateAfter of none " + days, () -> hive.stateAfter(1, days));
        }
        Check.same("no day went by", 0, hive.day());
        hive.passDays(30);
        Check.same("30 days", 30, hive.day());
    }

    private static void hearingsAreCounted() {
        HoneyAccord hive = Check.hive(PAIR + "begin p;");
        Check.same("three a day", 3, hive.passDays(1));
        Check.same("in two days, the second is refused by a", 6, hive.passDays(2));
        hive.crash(1);
        Check.same("b does not hear", 2, hive.passDays(1));
        Check.same("nor is it begun again", 0, hive.passDays(1));
        Check.same("nothing in an empty hive", 0, new HoneyAccord().passDays(30));
    }

    private static void ordersGoInTheirOrder() {
        HoneyAccord hive = Check.hive(PAIR + "begin p when awake a; crash a when done = 1; wake a when done = 2;"
            + "crash b when done = 3; wake b when done = 5;");
        hive.passDays(1);
        Check.same("each test holds as it comes to its turn", 4, hive.ordersCarriedOut());
        Check.same("a voted", 1, hive.voteIn(0, 0));
        Check.same("b sleeps", 0, hive.voteIn(0, 1));
    }

    private static void ordersThatCannotBeDone() {
        HoneyAccord hive = Check.hive(PAIR + "wake a; wake queen; crash queen; crash queen; begin p; wake queen; begin p; begin p;");
        hive.passDays(1);
        Check.same("crash, wake and begin", 3, hive.ordersCarriedOut());
        Check.same("it was begun", 2, hive.stateOf(0));
    }

    private static void eachOrderHasItsOwnTest() {
        HoneyAccord hive = Check.hive(PAIR + "crash a when 1 = 2; crash b; crash queen when day = 1; crash c when 1 = 1;");
        hive.passDays(1);
        Check.so("a's test fails", hive.isAwake(0));
        Check.notSo("b has none", hive.isAwake(1));
        Check.so("the queen's test fails today", hive.isQueenAwake());
        Check.notSo("c's test holds", hive.isAwake(2));
    }

    private static void testsLookAtTheHive() {
        String hive = "drone a honey 10; drone b honey 7; drone z honey 0; deal p moves a gives 1, b gives 1;"
            + "deal q moves a gets 5; crash b when day = 0; begin p when day = 0; begin q when day = 0;";
        holds(hive, 1, "day = 1");
        holds(hive, 1, "done = 3");
        holds(hive, 1, "blocked = 1");
        holds(hive, 1, "honey of a = 10 and honey of b = 7 and honey of z = 0");
        holds(hive, 3, "waits of p = 3");
        holds(hive, 4, "waits of p = 0");
        holds(hive, 1, "waits of p = 1 and waits of q = 0");
        holds(hive, 1, "awake a and not awake b and awake queen");
        fails(hive, 1, "awake b");
        fails(hive, 1, "not awake queen");
    }

    private static void testsReckonIn32Bits() {
        holds("", 0, "999999 * 999999 = -729 * 1000 * 1000 - 379967");
        holds("", 0, "65536 * 32768 < 0");
        holds("", 0, "65536 * 32768 / -1 = 65536 * 32768");
        holds("", 0, "-(65536 * 32768) = 65536 * 32768");
        holds("", 0, "65536 * 32768 - 1 > 0");
        holds("", 0, "65536 * 32767 + 65535 + 1 < 0");
        holds("", 0, "7 / 0 = 0");
        holds("", 0, "0 / 0 = 0");
        holds("", 0, "7 / (day - day) = 0");
        holds("", 0, "7 / 2 = 3 and -7 / 2 = -3 and 7 / -2 = -3 and -7 / -2 = 3");
        holds("", 0, "min(2, 3) = 2 and max(2, 3) = 3 and min(-2, -3) = -3 and max(-2, -3) = -2");
        holds("", 0, "1 < 2 and 2 > 1 and 2 = 2 and 2 <= 2 and 2 >= 2 and 1 <= 2 and 2 >= 1");
        fails("", 0, "2 < 2 or 2 > 2 or 1 = 2 or 3 <= 2 or 2 >= 3 or 2 < 1 or 1 > 2");
    }

    private static void bindingOfSigns() {
        holds("", 0, "2 + 3 * 4 = 14");
        holds("", 0, "(2 + 3) * 4 = 20");
        holds("", 0, "20 - 5 - 3 = 12");
        holds("", 0, "100 / 10 / 5 = 2");
        holds("", 0, "7 / 2 * 2 = 6");
        holds("", 0, "-2 * 3 + 7 = 1");
        holds("", 0, "5 - -2 = 7");
        holds("", 0, "1 = 1 or 1 = 1 and 1 = 2");
        fails("", 0, "[1 = 1 or 1 = 1] and 1 = 2");
        holds("", 0, "1 = 2 and 1 = 2 or 1 = 1");
        holds("", 0, "not 1 = 2 or 1 = 1");
        fails("", 0, "not 1 = 1 and 1 = 2");
        fails("", 0, "not [1 = 2 or 1 = 1]");
        holds("", 0, "not not 1 = 1");
        fails("", 0, "not 1 = 2 and 1 = 2");
        fails("", 0, "1 = 2 and 1 = 1");
        fails("", 0, "1 = 1 and 1 = 2 and 1 = 1");
        holds("", 0, "1 = 1 and 1 = 1 and 1 = 1");
        holds("", 0, "1 = 1 or 1 = 2");
        holds("", 0, "1 = 2 or 1 = 1 or 1 = 2");
        fails("", 0, "1 = 2 or 1 = 2 or 1 = 2");
        holds("", 0, "not 1 = 1 or 1 = 1");
    }

    private static void holds(String hive, int day, String test) {
        Check.same(test, 1, carriedOut(hive, day, test));
    }

    private static void fails(String hive, int day, String test) {
        Check.same(test, 0, carriedOut(hive, day, test));
    }

    /** How often an order with this test is carried out on the day; the queen's sleep shows it. */
    private static int carriedOut(String told, int day, String test) {
        HoneyAccord hive = Check.hive(told + "crash queen when day = " + day + " and [" + test + "];");
        hive.passDays(day + 1);
        return hive.isQueenAwake() ? 0 : 1;
    }

    private static void votesGoDealByDeal() {
        HoneyAccord hive = Check.hive("drone a honey 5; drone b honey 5;"
            + "deal late moves a gives 1; deal p moves b gives 1, a gives 5; deal q moves a gives 1;"
            + "begin q when day = 0; begin p when day = 0;");
        hive.passDays(1);
        Check.same("p is asked ahead of q", 2, hive.stateOf(1));
        Check.same("a is blocked as q asks", 3, hive.stateOf(2));
        Check.same("a heard of both", 3, hive.logOf(0));
        Check.same("a gave once", 0, hive.honeyOf(0));
        Check.same("late rests", 0, hive.stateOf(0));
    }

    private static void noVotesWithoutTheQueen() {
        HoneyAccord hive = Check.hive(PAIR);
        hive.begin(0);
        hive.crashQueen();
        Check.same("none hears", 0, hive.passDays(9));
        Check.same("none votes", 0, hive.votesFor(0));
        Check.same("nothing is decided", 1, hive.stateOf(0));
        Check.same("but it waits", 9, hive.waitsOf(0));
    }

    private static void oneNoRefuses() {
        HoneyAccord hive = Check.hive("drone a honey 5; drone b honey 5; drone c honey 5;"
            + "deal p moves a gives 1, b gives 6, c gives 1;");
        hive.crash(2);
        hive.begin(0);
        Check.same("a and b hear", 2, hive.passDays(1));
        Check.same("refused, though c has not voted", 3, hive.stateOf(0));
        Check.same("a is free", -1, hive.blockedBy(0));
        Check.same("a keeps its honey", 5, hive.honeyOf(0));
        hive.wake(2);
        Check.same("c hears later", 1, hive.passDays(1));
        Check.same("c never voted", 0, hive.voteIn(0, 2));
    }

    private static void patienceEnds() {
        HoneyAccord hive = Check.hive(PAIR);
        hive.crash(2);
        hive.begin(0);
        hive.passDays(3);
        Check.same("three days: begun", 1, hive.stateOf(0));
        Check.same("two are blocked", 2, hive.blocked());
        HoneyAccord other = Check.hive(PAIR);
        other.crash(2);
        other.begin(0);
        other.passDays(3);
        other.wake(2);
        other.passDays(1);
        Check.same("the last yes on the fourth day grants", 2, other.stateOf(0));
        Check.same("two hear", 2, hive.passDays(1));
        Check.same("the fourth day refuses", 3, hive.stateOf(0));
        Check.same("none is blocked", 0, hive.blocked());
    }

    private static void newsFromADrone() {
        HoneyAccord hive = settledBy(0);
        Check.same("two are blocked in their sleep", 2, hive.blocked());
        hive.crashQueen();
        hive.wake(1);
        hive.wake(2);
        Check.same("b and c hear from a", 2, hive.passDays(1));
        Check.same("b has got", 14, hive.honeyOf(1));
        Check.same("none is blocked", 0, hive.blocked());
        Check.same("each hears once", 0, hive.passDays(3));
    }

    private static void newsGoFromOneToTheNext() {
        HoneyAccord hive = settledBy(2);
        hive.crashQueen();
        hive.wake(1);
        Check.same("b hears from c, which stands behind it", 1, hive.passDays(1));
        hive.crash(2);
        hive.wake(0);
        Check.same("a hears from b", 1, hive.passDays(1));
        Check.same("a has given", 6, hive.honeyOf(0));
    }

    private static void newsOnlyFromTheAwake() {
        HoneyAccord hive = settledBy(0);
        hive.crash(0);
        hive.crashQueen();
        hive.wake(1);
        hive.wake(2);
        Check.same("a sleeps, and b and c know nothing", 0, hive.passDays(2));
        Check.same("b is blocked on", 0, hive.blockedBy(1));
        hive.wakeQueen();
        Check.same("waking does not refuse what is granted", 2, hive.stateOf(0));
        Check.same("the queen tells b and c", 2, hive.passDays(1));
    }

    private static void newsOnlyFromWhoHasHeard() {
        HoneyAccord hive = Check.hive(PAIR);
        hive.begin(0);
        hive.crashQueen();
        hive.wakeQueen();
        hive.crashQueen();
        Check.same("it is refused", 3, hive.stateOf(0));
        Check.same("none has heard, so none tells", 0, hive.passDays(5));
        Check.same("so it cannot be begun", 3, hive.stateAfter(0, 1));
    }

    /** A hive in which one was the last to vote yes, and heard at once, and the others sleep. */
    private static HoneyAccord settledBy(int last) {
        HoneyAccord hive = Check.hive(PAIR);
        hive.crash(last);
        hive.begin(0);
        hive.passDays(1);
        for (int drone = 0; drone < 3; drone++) {
            if (drone != last) {
                hive.crash(drone);
            }
        }
        hive.wake(last);
        Check.same("only " + last + " hears", 1, hive.passDays(1));
        Check.same("granted by " + last, 2, hive.stateOf(0));
        return hive;
    }

    private static void queenWakingByOrderRefuses() {
        HoneyAccord hive = Check.hive(PAIR + "begin p when day = 0; crash queen when day = 0; wake queen when day = 1;");
        Check.same("nothing on the first day", 0, hive.passDays(1));
        Check.same("begun", 1, hive.stateOf(0));
        Check.same("all hear of the refusal", 3, hive.passDays(1));
        Check.same("refused", 3, hive.stateOf(0));
        Check.same("without a vote", 0, hive.voteIn(0, 0));
    }

    private static void whatWouldBe() {
        HoneyAccord hive = Check.hive(PAIR + "begin p when day = 2 or day = 5;");
        hive.passDays(1);
        long before = hive.digest();
        int[] honey = {10, 6, 6, 6, 2};
        int[] states = {0, 2, 2, 2, 2};
        for (int days = 1; days <= honey.length; days++) {
            Check.same("honeyAfter " + days, honey[days - 1], hive.honeyAfter(0, days));
            Check.same("stateAfter " + days, states[days - 1], hive.stateAfter(0, days));
        }
        Check.same("honeyAfter 30", 12, hive.honeyAfter(2, 30));
        Check.same("stateAfter 30", 2, hive.stateAfter(0, 30));
        Check.same("nothing is changed", before, hive.digest());
        Check.same("the day stays", 1, hive.day());
        hive.begin(0);
        hive.crash(2);
        Check.same("waits", 1, hive.stateAfter(0, 3));
        Check.same("is refused", 3, hive.stateAfter(0, 4));
        Check.same("honey stays", 10, hive.honeyAfter(1, 30));
    }

    private static void whatWouldBeOfNone() {
        HoneyAccord hive = Check.hive(PAIR);
        for (int none : new int[] {-1, 3, 8, Integer.MIN_VALUE, Integer.MAX_VALUE}) {
            Check.noSuch("honeyAfter of " + none, () -> hive.honeyAfter(none, 1));
            Check.noSuch("stateAfter of " + none, () -> hive.stateAfter(none, 1));
            Check.noSuch("daysUntilFree of " + none, () -> hive.daysUntilFree(none));
        }
        Check.noSuch("stateAfter of the first behind the deals", () -> hive.stateAfter(1, 1));
    }

    private static void daysToBeFree() {
        HoneyAccord hive = Check.hive(PAIR);
        Check.same("free", 0, hive.daysUntilFree(0));
        hive.crash(2);
        hive.begin(0);
        Check.same("free ahead of the vote", 0, hive.daysUntilFree(0));
        hive.passDays(1);
        Check.same("three days more", 3, hive.daysUntilFree(0));
        Check.same("c is free", 0, hive.daysUntilFree(2));
        hive.passDays(2);
        Check.same("one day more", 1, hive.daysUntilFree(1));
        long before = hive.digest();
        hive.crashQueen();
        Check.same("not without the queen", -1, hive.daysUntilFree(1));
        hive.wakeQueen();
        Check.same("refused, to be heard", 1, hive.daysUntilFree(1));
        Check.so("the digest tells of this", before != hive.digest());
    }

    private static void daysToBeFreeAtTheBound() {
        Check.same("free behind 40 days", 40, daysUntilWoken(40));
        Check.same("free behind 41 days", -1, daysUntilWoken(41));
        Check.same("free behind 39 days", 39, daysUntilWoken(39));
    }

    /** On day 1, with a blocked since day 0, and the queen awake again on the last of so many days. */
    private static int daysUntilWoken(int days) {
        HoneyAccord hive = Check.hive(PAIR + "crash c when day = 0; begin p when day = 0; crash queen when day = 1;"
            + "wake queen when day = " + days + ";");
        hive.passDays(1);
        return hive.daysUntilFree(0);
    }

    private static void whomToWake() {
        String bees = "drone a honey 9; drone b honey 9; drone c honey 9; drone d honey 9;"
            + "deal p moves b gives 1, c gives 1, d gets 2;";
        HoneyAccord hive = Check.hive(bees);
        Check.same("none sleeps", -1, hive.bestToWake());
        hive.crash(0);
        hive.crash(3);
        Check.same("a, as none is blocked anyway", 0, hive.bestToWake());
        hive.begin(0);
        long before = hive.digest();
        Check.same("d, as it settles what b and c wait for", 3, hive.bestToWake());
        Check.same("nothing is changed", before, hive.digest());
        hive.passDays(1);
        Check.same("a, as all is refused in three days anyway", 0, hive.bestToWake());
        HoneyAccord later = Check.hive(bees + "begin p when day = 2;");
        later.crash(0);
        later.crash(3);
        Check.same("d, as b and c are blocked on the third day", 3, later.bestToWake());
        HoneyAccord tooLate = Check.hive(bees + "begin p when day = 3;");
        tooLate.crash(0);
        tooLate.crash(3);
        Check.same("a, as the fourth day does not count", 0, tooLate.bestToWake());
    }

    private static void whomToWakeOfSeveral() {
        HoneyAccord hive = Check.hive(PAIR);
        hive.crash(2);
        Check.same("the only one", 2, hive.bestToWake());
        hive.crash(1);
        Check.same("the smaller of two", 1, hive.bestToWake());
        hive.crash(0);
        Check.same("the smallest of three", 0, hive.bestToWake());
        Check.same("none in an empty hive", -1, new HoneyAccord().bestToWake());
        hive.crashQueen();
        Check.same("without the queen", 0, hive.bestToWake());
    }

    private static void meanOfHoney() {
        Check.same("without drones", 0.0, new HoneyAccord().meanHoney());
        Check.same("of one", 7.0, Check.hive("drone a honey 7;").meanHoney());
        Check.same("of two", 3.5, Check.hive("drone a honey 7; drone b honey 0;").meanHoney());
        Check.same("of three", 10.0 / 3.0, Check.hive("drone a honey 7; drone b honey 0; drone c honey 3;").meanHoney());
        HoneyAccord hive = Check.hive(PAIR);
        hive.begin(0);
        hive.passDays(1);
        Check.same("behind a deal", 31.0 / 3.0, hive.meanHoney());
    }

    private static void checksum() {
        long empty = 1087L;
        for (int x : new int[] {0, 0, 0, 0, 0, 0, 1, -1}) {
            empty = empty * 31 + x;
        }
        Check.same("of a new object", empty, new HoneyAccord().digest());
        HoneyAccord hive = Check.hive(PAIR + "deal q moves a gives 9; begin p when day = 3; crash b when day = 1;");
        for (int day = 0; day < 9; day++) {
            Check.same("on day " + day, reckoned(hive), hive.digest());
            hive.passDays(1);
        }
        hive.crashQueen();
        Check.same("without the queen", reckoned(hive), hive.digest());
    }

    private static long reckoned(HoneyAccord hive) {
        long d = 1087L;
        d = d * 31 + hive.drones();
        d = d * 31 + hive.deals();
        d = d * 31 + hive.day();
        d = d * 31 + hive.ordersCarriedOut();
        d = d * 31 + hive.blocked();
        d = d * 31 + hive.honey();
        d = d * 31 + (hive.isQueenAwake() ? 1 : 0);
        d = d * 31 + hive.bestToWake();
        for (int drone = 0; drone < hive.drones(); drone++) {
            d = d * 31 + hive.honeyOf(drone);
            d = d * 31 + (hive.isAwake(drone) ? 1 : 0);
            d = d * 31 + hive.blockedBy(drone);
            d = d * 31 + hive.logOf(drone);
            d = d * 31 + hive.daysUntilFree(drone);
        }
        for (int deal = 0; deal < hive.deals(); deal++) {
            d = d * 31 + hive.stateOf(deal);
            d = d * 31 + hive.waitsOf(deal);
            d = d * 31 + hive.votesFor(deal);
            d = d * 31 + (hive.wouldAgree(deal) ? 1 : 0);
            for (int part = 0; part < hive.partsOf(deal); part++) {
                d = d * 31 + hive.voteIn(deal, part);
                d = d * 31 + (hive.hasHeard(deal, part) ? 1 : 0);
            }
        }
        return d;
    }
}
