/** Promises 6 to 25: what can be asked of the hive, of drones and of deals. */
public final class AskingTest {

    private static final String FOUR = "drone a honey 10; drone b honey 3; drone c honey 60; drone d honey 0;";
    private static final String PAY = "deal pay moves a gives 4, b gets 4;";
    private static final String TAX = "deal tax moves c gives 20, a gets 1, d gets 19;";

    public static void main(String[] args) {
        countsOfTheHive();
        dayGoesOn();
        ordersAreCounted();
        blockedAreCounted();
        honeyIsSummed();
        queenIsAwake();
        honeyOfDrones();
        dronesAreAwake();
        blockersOfDrones();
        logsOfDrones();
        dronesThatAreNone();
        statesOfDeals();
        waitsOfDeals();
        partsOfDeals();
        votesOfParts();
        hearingOfParts();
        votesAreCounted();
        agreement();
        agreementOfOthers();
        agreementAtTheBounds();
        dealsThatAreNone();
        partsThatAreNone();
        fullHive();
        Check.finish();
    }

    private static void countsOfTheHive() {
        Check.same("drones", 4, Check.hive(FOUR).drones());
        Check.same("no deals", 0, Check.hive(FOUR).deals());
        HoneyAccord hive = Check.hive("drone a honey 1;deal x moves a gives 1;drone b honey 1;deal y moves b gives 1;");
        Check.same("drones told between deals", 2, hive.drones());
        Check.same("deals told between drones", 2, hive.deals());
    }

    private static void dayGoesOn() {
        HoneyAccord hive = Check.hive(FOUR);
        Check.same("first day", 0, hive.day());
        hive.passDays(1);
        Check.same("second day", 1, hive.day());
        hive.passDays(30);
        Check.same("behind 31 days", 31, hive.day());
        hive.crashQueen();
        hive.passDays(2);
        Check.same("days go by without the queen", 33, hive.day());
    }

    private static void ordersAreCounted() {
        HoneyAccord hive = Check.hive(FOUR + PAY + "begin pay; wake a; crash d; crash d when day = 0; wake d when day = 2;");
        Check.same("none at first", 0, hive.ordersCarriedOut());
        hive.passDays(1);
        Check.same("what can be done counts", 2, hive.ordersCarriedOut());
        hive.passDays(1);
        Check.same("in all", 3, hive.ordersCarriedOut());
        hive.passDays(1);
        Check.same("in all in three days", 5, hive.ordersCarriedOut());
        hive.crash(0);
        hive.crashQueen();
        Check.same("what is done by hand does not count", 5, hive.ordersCarriedOut());
    }

    private static void blockedAreCounted() {
        HoneyAccord hive = Check.hive(FOUR + TAX);
        hive.crash(3);
        hive.begin(0);
        Check.same("none ahead of votes", 0, hive.blocked());
        hive.passDays(1);
        Check.same("who voted yes", 2, hive.blocked());
        hive.wake(3);
        hive.passDays(1);
        Check.same("none behind hearing", 0, hive.blocked());
    }

    private static void honeyIsSummed() {
        Check.same("no honey", 0, new HoneyAccord().honey());
        HoneyAccord hive = Check.hive(FOUR + "deal f moves c gives 20; deal g moves d gets 3;");
        Check.same("at first", 73, hive.honey());
        hive.begin(0);
        hive.passDays(1);
        Check.same("given away", 53, hive.honey());
        hive.begin(1);
        hive.passDays(1);
        Check.same("got", 56, hive.honey());
    }

    private static void queenIsAwake() {
        HoneyAccord hive = Check.hive(FOUR + "crash queen when day = 1; wake queen when day = 3;");
        boolean[] due = {true, false, false, true};
        for (int day = 0; day < due.length; day++) {
            hive.passDays(1);
            Check.same("queen on day " + day, due[day] ? 1 : 0, hive.isQueenAwake() ? 1 : 0);
        }
        hive.crashQueen();
        Check.notSo("crashed by hand", hive.isQueenAwake());
    }

    private static void honeyOfDrones() {
        HoneyAccord hive = Check.hive(FOUR + PAY);
        hive.begin(0);
        Check.same("a ahead", 10, hive.honeyOf(0));
        hive.passDays(1);
        int[] due = {6, 7, 60, 0};
        for (int drone = 0; drone < due.length; drone++) {
            Check.same("honey of " + drone, due[drone], hive.honeyOf(drone));
        }
    }

    private static void dronesAreAwake() {
        HoneyAccord hive = Check.hive(FOUR + "crash b;");
        Check.so("at first", hive.isAwake(1));
        hive.passDays(1);
        Check.notSo("crashed by an order", hive.isAwake(1));
        Check.so("another", hive.isAwake(0) && hive.isAwake(2) && hive.isAwake(3));
        hive.crashQueen();
        Check.so("the queen is no drone", hive.isAwake(0));
    }

    private static void blockersOfDrones() {
        HoneyAccord hive = Check.hive(FOUR + PAY + TAX);
        hive.crash(3);
        hive.begin(1);
        Check.same("ahead of votes", -1, hive.blockedBy(2));
        hive.passDays(1);
        int[] due = {1, -1, 1, -1};
        for (int drone = 0; drone < due.length; drone++) {
            Check.same("blocker of " + drone, due[drone], hive.blockedBy(drone));
        }
    }

    private static void logsOfDrones() {
        HoneyAccord hive = Check.hive(FOUR + "deal f moves b gives 4, a gets 1; begin f when day < 2;");
        hive.passDays(1);
        Check.same("a voted yes and heard", 2, hive.logOf(0));
        Check.same("b voted no and heard", 1, hive.logOf(1));
        Check.same("c has no part", 0, hive.logOf(2));
        hive.passDays(1);
        Check.same("the log goes on", 4, hive.logOf(0));
        hive.crash(1);
        hive.begin(0);
        hive.passDays(1);
        Check.same("yes without hearing", 5, hive.logOf(0));
        Check.same("asleep", 2, hive.logOf(1));
    }

    private static void dronesThatAreNone() {
        HoneyAccord hive = Check.hive(FOUR);
        for (int drone : new int[] {-1, 4, 8, Integer.MIN_VALUE, Integer.MAX_VALUE}) {
            Check.noSuch("honeyOf " + drone, () -> hive.honeyOf(drone));
            Check.noSuch("isAwake " + drone, () -> hive.isAwake(drone));
            Check.noSuch("blockedBy " + drone, () -> hive.blockedBy(drone));
            Check.noSuch("logOf " + drone, () -> hive.logOf(drone));
        }
        Check.noSuch("honeyOf of a new object", () -> new HoneyAccord().honeyOf(0));
    }

    private static void statesOfDeals() {
        HoneyAccord hive = Check.hive(FOUR + PAY + "deal f moves b gives 4, a gets 1;" + TAX);
        Check.same("rests", 0, hive.stateOf(0));
        hive.begin(0);
        Check.same("begun", 1, hive.stateOf(0));
        hive.passDays(1);
        Check.same("granted", 2, hive.stateOf(0));
        Check.same("another rests", 0, hive.stateOf(1));
        hive.passDays(1);
        hive.begin(0);
        hive.crash(1);
        hive.passDays(3);
        Check.same("begun and waiting", 1, hive.stateOf(0));
        hive.passDays(1);
        Check.same("refused", 3, hive.stateOf(0));
    }

    private static void waitsOfDeals() {
        HoneyAccord hive = Check.hive(FOUR + PAY);
        hive.passDays(5);
        Check.same("rests", 0, hive.waitsOf(0));
        hive.crash(1);
        hive.begin(0);
        for (int days = 0; days < 4; days++) {
            Check.same("begun so many days ago", days, hive.waitsOf(0));
            hive.passDays(1);
        }
        Check.same("refused", 0, hive.waitsOf(0));
    }

    private static void partsOfDeals() {
        HoneyAccord hive = Check.hive(FOUR + PAY + TAX + "deal one moves b gets 20;");
        int[] parts = {2, 3, 1};
        for (int deal = 0; deal < parts.length; deal++) {
            Check.same("parts of " + deal, parts[deal], hive.partsOf(deal));
        }
        int[] drones = {2, 0, 3};
        int[] changes = {-20, 1, 19};
        for (int part = 0; part < drones.length; part++) {
            Check.same("drone of part " + part, drones[part], hive.droneIn(1, part));
            Check.same("change of part " + part, changes[part], hive.changeIn(1, part));
        }
        Check.same("drone of the last deal", 1, hive.droneIn(2, 0));
        Check.same("change of the last deal", 20, hive.changeIn(2, 0));
        Check.same("drone of the first deal", 0, hive.droneIn(0, 0));
        Check.same("change of the first deal", -4, hive.changeIn(0, 0));
    }

    private static void votesOfParts() {
        HoneyAccord hive = Check.hive(FOUR + "deal f moves d gives 1, a gets 1, b gives 1;");
        hive.crash(1);
        hive.begin(0);
        Check.same("not yet", 0, hive.voteIn(0, 0));
        hive.passDays(1);
        int[] due = {2, 1, 0};
        for (int part = 0; part < due.length; part++) {
            Check.same("vote of part " + part, due[part], hive.voteIn(0, part));
        }
        hive.wake(1);
        hive.passDays(1);
        Check.same("no vote for a deal that is over", 0, hive.voteIn(0, 2));
        hive.begin(0);
        Check.same("votes are gone as it is begun", 0, hive.voteIn(0, 0) + hive.voteIn(0, 1));
    }

    private static void hearingOfParts() {
        HoneyAccord hive = Check.hive(FOUR + PAY);
        Check.notSo("resting", hive.hasHeard(0, 0));
        hive.begin(0);
        hive.passDays(1);
        Check.so("a heard", hive.hasHeard(0, 0));
        Check.so("b heard", hive.hasHeard(0, 1));
        hive.begin(0);
        Check.notSo("none has heard as it is begun", hive.hasHeard(0, 0) || hive.hasHeard(0, 1));
        hive.crash(1);
        hive.passDays(4);
        Check.so("a heard that it is refused", hive.hasHeard(0, 0));
        Check.notSo("b sleeps", hive.hasHeard(0, 1));
    }

    private static void votesAreCounted() {
        HoneyAccord hive = Check.hive(FOUR + "deal f moves d gives 1, a gets 1, b gives 1;");
        Check.same("resting", 0, hive.votesFor(0));
        hive.begin(0);
        hive.passDays(1);
        Check.same("yes of a and b, no of d", 2, hive.votesFor(0));
        hive.crash(0);
        hive.begin(0);
        Check.same("begun again", 0, hive.votesFor(0));
        hive.passDays(1);
        Check.same("yes of b", 1, hive.votesFor(0));
    }

    private static void agreement() {
        HoneyAccord hive = Check.hive(FOUR + PAY + TAX + "deal f moves a gets 1, d gives 1;");
        Check.so("all would", hive.wouldAgree(0));
        Check.notSo("d would not", hive.wouldAgree(2));
        hive.crash(0);
        Check.so("asleep or not", hive.wouldAgree(0));
        hive.begin(0);
        hive.passDays(1);
        Check.notSo("b is blocked, even by this", hive.wouldAgree(0));
        Check.so("none of tax is", hive.wouldAgree(1));
        long before = hive.digest();
        hive.wouldAgree(1);
        Check.same("asking changes nothing", before, hive.digest());
    }

    private static void agreementOfOthers() {
        HoneyAccord hive = Check.hive(FOUR + PAY + "deal one moves b gets 1;");
        hive.crash(1);
        hive.begin(0);
        hive.passDays(1);
        Check.same("a is blocked", 0, hive.blockedBy(0));
        Check.so("b would agree without a", hive.wouldAgree(1));
    }

    private static void agreementAtTheBounds() {
        HoneyAccord hive = Check.hive("drone a honey 60; drone b honey 7; deal up moves a gets 20; deal x moves a gets 19;"
            + "deal y moves a gets 20; deal out moves b gives 7; deal over moves b gives 8; deal one moves b gives 1;");
        hive.begin(0);
        hive.passDays(1);
        Check.same("80", 80, hive.honeyOf(0));
        Check.so("99 is as much as may be", hive.wouldAgree(1));
        Check.notSo("100 is too much", hive.wouldAgree(2));
        Check.so("0 is as little as may be", hive.wouldAgree(3));
        Check.notSo("-1 is too little", hive.wouldAgree(4));
        hive.begin(2);
        hive.begin(4);
        hive.passDays(1);
        Check.same("100 is refused", 3, hive.stateOf(2));
        Check.same("-1 is refused", 3, hive.stateOf(4));
        hive.begin(1);
        hive.begin(3);
        hive.passDays(1);
        Check.same("99", 99, hive.honeyOf(0));
        Check.same("0", 0, hive.honeyOf(1));
    }

    private static void dealsThatAreNone() {
        HoneyAccord hive = Check.hive(FOUR + PAY);
        for (int deal : new int[] {-1, 1, 6, Integer.MIN_VALUE, Integer.MAX_VALUE}) {
            Check.noSuch("stateOf " + deal, () -> hive.stateOf(deal));
            Check.noSuch("waitsOf " + deal, () -> hive.waitsOf(deal));
            Check.noSuch("partsOf " + deal, () -> hive.partsOf(deal));
            Check.noSuch("votesFor " + deal, () -> hive.votesFor(deal));
            Check.noSuch("wouldAgree " + deal, () -> hive.wouldAgree(deal));
            partIsNone(hive, deal, 0);
        }
        Check.noSuch("stateOf of a new object", () -> new HoneyAccord().stateOf(0));
    }

    private static void partsThatAreNone() {
        HoneyAccord hive = Check.hive(FOUR + PAY + TAX);
        for (int part : new int[] {-1, 2, 6, Integer.MIN_VALUE, Integer.MAX_VALUE}) {
            partIsNone(hive, 0, part);
        }
        partIsNone(hive, 1, -1);
        partIsNone(hive, 1, 3);
    }

    /** With as much of all as may be told, nothing of one deal may be taken for that of the next. */
    private static void fullHive() {
        StringBuilder text = new StringBuilder();
        for (char drone = 'a'; drone <= 'h'; drone++) {
            text.append("drone ").append(drone).append(" honey 20;");
        }
        for (char deal = 'p'; deal <= 'u'; deal++) {
            text.append("deal ").append(deal).append(" moves ");
            text.append("a gives 1, b gives 1, d gives 1, e gets 1, f gets 1, ").append(deal == 'p' ? 'c' : 'h').append(" gets 1;");
        }
        text.append("wake queen when day = 99;".repeat(15)).append("begin u when day = 9;");
        HoneyAccord hive = Check.hive(text.toString());
        Check.same("none of eight is blocked", 0, hive.blocked());
        Check.same("six parts hear", 6, begunAndPassed(hive, 1));
        Check.same("all voted for 1", 6, hive.votesFor(1));
        Check.same("none voted for 0", 0, hive.votesFor(0));
        hive.begin(0);
        Check.same("1 keeps its votes", 1, hive.voteIn(1, 0));
        Check.so("and what was heard", hive.hasHeard(1, 0));
        hive.crashQueen();
        Check.same("the queen is none to be told", -1, hive.bestToWake());
        hive.wakeQueen();
        hive.crashQueen();
        Check.same("who heard of 1 tells nothing of 0", 0, hive.passDays(1));
        hive.wakeQueen();
        Check.same("the queen does", 6, hive.passDays(1));
        Check.same("six parts of the last deal hear", 6, begunAndPassed(hive, 5));
        Check.same("h has got twice", 22, hive.honeyOf(7));
        Check.same("the drone of the last part", 7, hive.droneIn(5, 5));
        Check.same("its change", 1, hive.changeIn(5, 5));
        Check.same("its vote", 1, hive.voteIn(5, 5));
        hive.passDays(6);
        Check.same("the last order of sixteen", 1, hive.ordersCarriedOut());
    }

    private static int begunAndPassed(HoneyAccord hive, int deal) {
        hive.begin(deal);
        return hive.passDays(1);
    }

    private static void partIsNone(HoneyAccord hive, int deal, int part) {
        Check.noSuch("droneIn " + deal + ", " + part, () -> hive.droneIn(deal, part));
        Check.noSuch("changeIn " + deal + ", " + part, () -> hive.changeIn(deal, part));
        Check.noSuch("voteIn " + deal + ", " + part, () -> hive.voteIn(deal, part));
        Check.noSuch("hasHeard " + deal + ", " + part, () -> hive.hasHeard(deal, part));
    }
}
