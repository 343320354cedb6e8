import java.math.BigInteger;

/** The sentences of section 2 and promises 6 to 37 that name a boundary: each on both sides of it. */
public final class HiveBoundsTest {

    private static final String BEES = "drone a honey 10; drone b honey 10; drone c honey 10; ";
    private static final String ALL = BEES + "deal p moves a gives 1, b gets 1, c gets 2; ";
    /** The order waits till x sleeps, so that a test chooses its day by crash(2). */
    private static final String SWITCHED = "drone a honey 10; drone b honey 10; drone x honey 0;"
        + "deal p moves a gives 1, b gets 1; begin p when not awake x;";

    interface Steps {
        void run(HoneyAccord hive);
    }

    public static void main(String[] args) {
        honeyBehindADealIs0OrMore();
        honeyBehindADealIs99OrLess();
        dealsThatRestCanBegin();
        dealsThatAreBegunCannot();
        grantedDealsCanWhenAllHaveHeard();
        refusedDealsCanWhenAllHaveHeard();
        noDealCanWithoutTheQueen();
        beginningForgetsVotesAndHearing();
        crashingAndWakingByOrder();
        wakingQueenRefusesTheBegun();
        whoIsBlockedVotesNo();
        whoSleepsDoesNotVote();
        eachVotesOnce();
        dealsThatAreNotBegunGetNoVotes();
        oneNoIsEnough();
        allYesAreNeeded();
        threeDaysAreWaited();
        queenAsleepDecidesNothing();
        whoSleepsDoesNotHear();
        newsWithoutTheQueen();
        hearingFreesOfThisDealAlone();
        ordersAreTestedAtTheirTurn();
        waitsInTests();
        doneAndBlockedInTests();
        awakeInTests();
        andBindsMoreThanOr();
        numbersOfDrones();
        numbersOfDealsAndParts();
        numbersAreOfTheLatestTeach();
        countsFromNoneToAll();
        logCountsYesAndHearing();
        agreementNeedsAll();
        daysAre1To30();
        foretellingEndsOnTheDay();
        foretellingBeginsWithAllThatIs();
        freeBehind0To40Days();
        threeDaysDecideWhomToWake();
        fewestBlockedDecideWhomToWake();
        meanOfNoneAndAll();
        digestWrapsIn64Bits();
        throwingChangesNothing();
        firstNamedExceptionIsThrown();
        anObjectLasts512Calls();
        Check.finish();
    }

    // ---- "A drone votes yes for a deal, if it ... would have 0 to 99 honey behind it"

    private static void honeyBehindADealIs0OrMore() {
        Check.same("20 gives 20", 1, voteOf(20, "gives 20"));
        Check.same("19 gives 20", 2, voteOf(19, "gives 20"));
        Check.same("1 gives 1", 1, voteOf(1, "gives 1"));
        Check.same("0 gives 1", 2, voteOf(0, "gives 1"));
        Check.same("0 gets 1", 1, voteOf(0, "gets 1"));
        Check.same("60 gets 20", 1, voteOf(60, "gets 20"));
    }

    private static int voteOf(int honey, String part) {
        HoneyAccord hive = Check.hive("drone a honey " + honey + "; deal p moves a " + part + ";");
        boolean would = hive.wouldAgree(0);
        hive.begin(0);
        hive.passDays(1);
        int vote = hive.voteIn(0, 0);
        Check.same("wouldAgree of " + honey + " " + part, vote == 1 ? 1 : 0, would ? 1 : 0);
        Check.same("state of " + honey + " " + part, vote == 1 ? 2 : 3, hive.stateOf(0));
        return vote;
    }

    private static void honeyBehindADealIs99OrLess() {
        HoneyAccord hive = Check.hive("drone a honey 60; deal up moves a gets 20; deal most moves a gets 19;"
            + "deal one moves a gets 1; deal back moves a gives 1;");
        int[] deals = {0, 0, 1, 2, 0, 3, 1, 2};
        int[] votes = {1, 2, 1, 2, 2, 1, 2, 1};
        int[] honey = {80, 80, 99, 99, 99, 98, 98, 99};
        for (int i = 0; i < deals.length; i++) {
            Check.same("wouldAgree, step " + i, votes[i] == 1 ? 1 : 0, hive.wouldAgree(deals[i]) ? 1 : 0);
            hive.begin(deals[i]);
            hive.passDays(1);
            Check.same("vote, step " + i, votes[i], hive.voteIn(deals[i], 0));
            Check.same("honey, step " + i, honey[i], hive.honeyOf(0));
        }
    }

    // ---- "Beginning a deal can be done, if the queen is awake, and it rests, or is granted or refused and ..."

    private static void dealsThatRestCanBegin() {
        begins("resting", true, hive -> { });
        begins("resting for long", true, hive -> hive.passDays(30));
        begins("resting, all asleep", true, hive -> {
            hive.crash(0);
            hive.crash(1);
        });
    }

    private static void dealsThatAreBegunCannot() {
        begins("begun now", false, hive -> hive.begin(0));
        begins("begun and waiting", false, hive -> {
            hive.crash(1);
            hive.begin(0);
            hive.passDays(3);
        });
    }

    private static void grantedDealsCanWhenAllHaveHeard() {
        begins("granted, both heard", true, hive -> {
            hive.begin(0);
            hive.passDays(1);
        });
        begins("granted, b heard alone", false, hive -> grantedBy(hive, 1));
        begins("granted, a heard alone", false, hive -> grantedBy(hive, 0));
        begins("granted, b heard and then a", true, hive -> {
            grantedBy(hive, 1);
            hive.wake(0);
            hive.passDays(1);
        });
        begins("granted, both heard and asleep", true, hive -> {
            hive.begin(0);
            hive.passDays(1);
            hive.crash(0);
            hive.crash(1);
        });
    }

    /** The last of the two votes and hears, while the other, which said yes ahead, sleeps. */
    private static void grantedBy(HoneyAccord hive, int last) {
        hive.crash(last);
        hive.begin(0);
        hive.passDays(1);
        hive.crash(1 - last);
        hive.wake(last);
        hive.passDays(1);
        Check.same("granted by " + last, 2, hive.stateOf(0));
        Check.so("heard by " + last, hive.hasHeard(0, last));
        Check.notSo("not heard by the other", hive.hasHeard(0, 1 - last));
    }

    private static void refusedDealsCanWhenAllHaveHeard() {
        begins("refused, none heard", false, HiveBoundsTest::refusedUnheard);
        begins("refused, both heard", true, hive -> {
            refusedUnheard(hive);
            hive.passDays(1);
        });
        for (int sleeper = 0; sleeper < 2; sleeper++) {
            int last = sleeper;
            begins("refused, not heard by " + last, false, hive -> {
                hive.crash(last);
                refusedUnheard(hive);
                hive.passDays(1);
            });
            begins("refused, heard at last by " + last, true, hive -> {
                hive.crash(last);
                refusedUnheard(hive);
                hive.passDays(1);
                hive.wake(last);
                hive.passDays(1);
            });
        }
    }

    private static void refusedUnheard(HoneyAccord hive) {
        hive.begin(0);
        hive.crashQueen();
        Check.same("one is refused", 1, hive.wakeQueen());
        Check.same("it is refused", 3, hive.stateOf(0));
    }

    private static void noDealCanWithoutTheQueen() {
        begins("resting, the queen asleep", false, HoneyAccord::crashQueen);
        begins("granted and heard, the queen asleep", false, hive -> {
            hive.begin(0);
            hive.passDays(1);
            hive.crashQueen();
        });
        begins("resting, the queen awake again", true, hive -> {
            hive.crashQueen();
            hive.wakeQueen();
        });
    }

    /** Tries it by hand, and on a second hive by an order. */
    private static void begins(String what, boolean can, Steps ahead) {
        HoneyAccord byHand = Check.hive(SWITCHED);
        ahead.run(byHand);
        int begun = byHand.stateOf(0) == 1 ? 1 : 0;
        if (can) {
            Check.same("begin of " + what, begun + 1, byHand.begin(0));
            Check.same("state of " + what, 1, byHand.stateOf(0));
            Check.same("waits of " + what, 0, byHand.waitsOf(0));
        } else {
            long before = byHand.digest();
            Check.cannot("begin of " + what, () -> byHand.begin(0));
            Check.same("nothing is changed, " + what, before, byHand.digest());
        }
        HoneyAccord byOrder = Check.hive(SWITCHED);
        ahead.run(byOrder);
        byOrder.crash(2);
        byOrder.passDays(1);
        Check.same("order to begin of " + what, can ? 1 : 0, byOrder.ordersCarriedOut());
    }

    private static void beginningForgetsVotesAndHearing() {
        HoneyAccord hive = Check.hive(ALL + "deal q moves a gives 1, b gives 1;");
        hive.begin(0);
        hive.begin(1);
        hive.passDays(1);
        Check.same("p: votes of all", 3, hive.votesFor(0));
        Check.same("q: none, as all are blocked", 2, hive.voteIn(1, 0));
        hive.begin(0);
        for (int part = 0; part < 3; part++) {
            Check.same("p: no vote of " + part, 0, hive.voteIn(0, part));
            Check.notSo("p: no hearing of " + part, hive.hasHeard(0, part));
        }
        for (int part = 0; part < 2; part++) {
            Check.same("q keeps the vote of " + part, 2, hive.voteIn(1, part));
            Check.so("q keeps the hearing of " + part, hive.hasHeard(1, part));
        }
    }

    // ---- "Crashing can be done with who is awake, who is asleep then; waking the other way."

    private static void crashingAndWakingByOrder() {
        String[] who = {"a", "queen"};
        for (String one : who) {
            Check.same("crash " + one, 1, doneOf("crash " + one + ";"));
            Check.same("crash twice " + one, 1, doneOf("crash " + one + "; crash " + one + ";"));
            Check.same("wake " + one, 0, doneOf("wake " + one + ";"));
            Check.same("crash and wake " + one, 2, doneOf("crash " + one + "; wake " + one + ";"));
            Check.same("crash and wake twice " + one, 2, doneOf("crash " + one + "; wake " + one + "; wake " + one + ";"));
            Check.same("wake and crash " + one, 1, doneOf("wake " + one + "; crash " + one + ";"));
        }
        Check.same("each for itself", 4, doneOf("crash a; crash b; crash c; crash queen;"));
        Check.same("one does not wake another", 1, doneOf("crash a; wake b; wake queen;"));
    }

    private static int doneOf(String orders) {
        HoneyAccord hive = Check.hive(BEES + orders);
        hive.passDays(1);
        return hive.ordersCarriedOut();
    }

    // ---- "As the queen wakes, each deal that is begun is refused."

    private static void wakingQueenRefusesTheBegun() {
        StringBuilder text = new StringBuilder("drone a honey 30; ");
        for (char deal = 'p'; deal <= 'u'; deal++) {
            text.append("deal ").append(deal).append(" moves a gives 1; ");
        }
        for (int begun = 0; begun <= 6; begun++) {
            HoneyAccord hive = Check.hive(text + "crash queen when day = 0; wake queen when day = 1;");
            for (int deal = 0; deal < begun; deal++) {
                Check.same("begun are", deal + 1, hive.begin(5 - deal));
            }
            Check.same("as she crashes", begun, hive.crashQueen());
            Check.same("as she wakes", begun, hive.wakeQueen());
            for (int deal = 0; deal < 6; deal++) {
                Check.same("state of " + deal + " of " + begun, 5 - deal < begun ? 3 : 0, hive.stateOf(deal));
            }
            Check.same("none is begun", 0, hive.crashQueen());
            Check.same("none is refused again", 0, hive.wakeQueen());
        }
        HoneyAccord ordered = Check.hive(ALL + "begin p when day = 0; crash queen when day = 0; wake queen when day = 2;");
        ordered.passDays(2);
        Check.same("begun as long as she sleeps", 1, ordered.stateOf(0));
        Check.same("all hear as she has woken", 3, ordered.passDays(1));
        Check.same("refused", 3, ordered.stateOf(0));
        Check.same("none has voted", 0, ordered.votesFor(0));
        Check.same("a heard, and never said yes", 1, ordered.logOf(0));
    }

    // ---- "A drone votes yes for a deal, if it is blocked by none ... Otherwise it votes no."

    private static void whoIsBlockedVotesNo() {
        HoneyAccord hive = Check.hive(BEES + "deal p moves a gives 1, b gives 1; deal q moves a gives 1; deal r moves c gives 1;");
        hive.crash(1);
        hive.begin(0);
        hive.passDays(1);
        hive.begin(1);
        hive.begin(2);
        Check.notSo("a would not", hive.wouldAgree(1));
        Check.so("c would", hive.wouldAgree(2));
        hive.passDays(1);
        Check.same("a votes no", 2, hive.voteIn(1, 0));
        Check.same("c votes yes", 1, hive.voteIn(2, 0));
        Check.same("q is refused", 3, hive.stateOf(1));
        Check.same("r is granted", 2, hive.stateOf(2));
        Check.same("a is blocked by p on, though it heard of q", 0, hive.blockedBy(0));
        Check.so("a heard of q", hive.hasHeard(1, 0));
    }

    private static void whoSleepsDoesNotVote() {
        HoneyAccord hive = Check.hive(ALL);
        hive.crash(1);
        hive.begin(0);
        hive.passDays(1);
        int[] votes = {1, 0, 1};
        int[] blockers = {0, -1, 0};
        for (int i = 0; i < 3; i++) {
            Check.same("vote of " + i, votes[i], hive.voteIn(0, i));
            Check.same("blocker of " + i, blockers[i], hive.blockedBy(i));
            Check.same("log of " + i, votes[i], hive.logOf(i));
        }
        hive.wake(1);
        Check.same("it votes as it is awake, and all hear", 3, hive.passDays(1));
        Check.same("its vote", 1, hive.voteIn(0, 1));
    }

    private static void eachVotesOnce() {
        HoneyAccord hive = Check.hive(ALL);
        hive.crash(2);
        hive.begin(0);
        for (int day = 1; day <= 3; day++) {
            hive.passDays(1);
            Check.same("one yes of a in " + day + " days", 1, hive.logOf(0));
            Check.same("two votes in " + day + " days", 2, hive.votesFor(0));
        }
        hive.passDays(1);
        Check.same("one yes and one hearing of a", 2, hive.logOf(0));
        Check.same("votes stay behind the end", 2, hive.votesFor(0));
    }

    // ---- "deal by deal that is begun, by numbers"

    private static void dealsThatAreNotBegunGetNoVotes() {
        HoneyAccord hive = Check.hive(BEES + "deal p moves a gives 1; deal q moves b gives 1; deal r moves c gives 1;");
        hive.begin(1);
        hive.passDays(1);
        Check.same("p rests", 0, hive.voteIn(0, 0));
        Check.same("q is begun", 1, hive.voteIn(1, 0));
        Check.same("r rests", 0, hive.voteIn(2, 0));
        HoneyAccord refused = Check.hive(ALL);
        refused.crash(2);
        refused.begin(0);
        refused.passDays(4);
        Check.same("refused by waiting", 3, refused.stateOf(0));
        refused.wake(2);
        refused.passDays(1);
        Check.same("no vote for what is refused", 0, refused.voteIn(0, 2));
        HoneyAccord both = Check.hive("drone a honey 1; deal p moves a gives 1; deal q moves a gives 1;");
        both.begin(1);
        both.begin(0);
        both.passDays(1);
        Check.same("p, of the smaller number, has a", 2, both.stateOf(0));
        Check.same("q has not", 3, both.stateOf(1));
    }

    // ---- step 3: "is refused, if a part has voted no, granted, if all have voted yes, and refused, if neither ..."

    private static void oneNoIsEnough() {
        String[] parts = {"a gives 1", "b gives 1", "c gives 1"};
        for (int no = 0; no < 3; no++) {
            String[] told = parts.clone();
            told[no] = told[no].replace("1", "11");
            HoneyAccord hive = Check.hive(BEES + "deal p moves " + String.join(", ", told) + ";");
            hive.crash((no + 1) % 3);
            hive.begin(0);
            Check.same("two hear of the no of " + no, 2, hive.passDays(1));
            Check.same("refused by " + no, 3, hive.stateOf(0));
            Check.same("a yes of one", 1, hive.votesFor(0));
            Check.same("none is blocked", 0, hive.blocked());
            Check.same("no honey is moved", 30, hive.honey());
        }
    }

    private static void allYesAreNeeded() {
        for (int last = 0; last < 3; last++) {
            HoneyAccord hive = Check.hive(ALL);
            hive.crash(last);
            hive.begin(0);
            Check.same("none hears without " + last, 0, hive.passDays(1));
            Check.same("not granted without " + last, 1, hive.stateOf(0));
            hive.wake(last);
            Check.same("all hear with " + last, 3, hive.passDays(1));
            Check.same("granted with " + last, 2, hive.stateOf(0));
        }
        HoneyAccord one = Check.hive("drone a honey 1; deal p moves a gives 1;");
        one.begin(0);
        Check.same("one of one", 1, one.passDays(1));
        Check.same("granted", 2, one.stateOf(0));
    }

    // ---- "refused, if neither is so and it was begun three days ago or longer"

    private static void threeDaysAreWaited() {
        HoneyAccord byOrder = Check.hive(ALL + "begin p when day = 4; crash c when day = 0;");
        byOrder.passDays(4);
        HoneyAccord byHand = Check.hive(ALL);
        byHand.crash(2);
        byHand.passDays(5);
        byHand.begin(0);
        for (int days = 1; days <= 3; days++) {
            byOrder.passDays(1);
            byHand.passDays(1);
            Check.same("by order, behind " + days, 1, byOrder.stateOf(0));
            Check.same("by hand, behind " + days, 1, byHand.stateOf(0));
            Check.same("by order, it waits", days, byOrder.waitsOf(0));
            Check.same("by hand, it waits", days, byHand.waitsOf(0));
        }
        Check.same("by order, a and b hear", 2, byOrder.passDays(1));
        Check.same("by hand, a and b hear", 2, byHand.passDays(1));
        Check.same("by order, refused", 3, byOrder.stateOf(0));
        Check.same("by hand, refused", 3, byHand.stateOf(0));
        Check.same("it waits no more", 0, byOrder.waitsOf(0) + byHand.waitsOf(0));
        HoneyAccord late = Check.hive(ALL + "begin p when day = 0; crash c when day = 0; wake c when day = 3;");
        late.passDays(3);
        Check.same("all hear, as c says yes three days behind", 3, late.passDays(1));
        Check.same("granted", 2, late.stateOf(0));
        HoneyAccord tooLate = Check.hive(ALL + "begin p when day = 0; crash c when day = 0; wake c when day = 4;");
        tooLate.passDays(5);
        Check.same("refused a day later", 3, tooLate.stateOf(0));
        Check.same("c was not asked", 0, tooLate.voteIn(0, 2));
    }

    // ---- "If the queen is awake" in steps 2 and 3

    private static void queenAsleepDecidesNothing() {
        HoneyAccord hive = Check.hive(ALL);
        hive.begin(0);
        hive.crashQueen();
        Check.same("none hears in 30 days", 0, hive.passDays(30));
        Check.same("none votes", 0, hive.votesFor(0));
        Check.same("it waits", 30, hive.waitsOf(0));
        Check.same("it is begun on", 1, hive.stateOf(0));
        HoneyAccord voted = Check.hive(ALL + "crash queen when day = 1;");
        voted.crash(2);
        voted.begin(0);
        voted.passDays(1);
        voted.wake(2);
        voted.passDays(1);
        Check.same("she crashed ahead of the vote of c", 0, voted.voteIn(0, 2));
        Check.same("two are blocked", 2, voted.blocked());
    }

    // ---- step 4: "the drone hears, if it is awake and has not heard yet, and the queen is awake, or ..."

    private static void whoSleepsDoesNotHear() {
        HoneyAccord hive = Check.hive(ALL);
        hive.begin(0);
        Check.same("all hear", 3, hive.passDays(1));
        Check.same("each once", 0, hive.passDays(30));
        Check.same("log of each", 2, hive.logOf(0));
        Check.same("honey is moved once", 12, hive.honeyOf(2));
        HoneyAccord sleepy = Check.hive(ALL);
        sleepy.begin(0);
        sleepy.crashQueen();
        sleepy.wakeQueen();
        sleepy.crash(0);
        Check.same("two hear", 2, sleepy.passDays(1));
        Check.notSo("a does not", sleepy.hasHeard(0, 0));
        sleepy.wake(0);
        Check.same("one hears", 1, sleepy.passDays(1));
        Check.so("a does", sleepy.hasHeard(0, 0));
        HoneyAccord resting = Check.hive(ALL);
        Check.same("none hears of what rests", 0, resting.passDays(30));
    }

    private static void newsWithoutTheQueen() {
        for (int teller = 0; teller < 3; teller++) {
            int hearer = (teller + 1) % 3;
            int other = (teller + 2) % 3;
            HoneyAccord hive = heardByOne(teller);
            hive.crashQueen();
            hive.crash(teller);
            hive.wake(hearer);
            Check.same("none tells, as the teller " + teller + " sleeps", 0, hive.passDays(1));
            hive.wake(teller);
            Check.same("the teller " + teller + " tells", 1, hive.passDays(1));
            Check.so("it is heard by " + hearer, hive.hasHeard(0, hearer));
            hive.crash(teller);
            hive.wake(other);
            Check.same("who was told tells on", 1, hive.passDays(1));
            HoneyAccord queenly = heardByOne(teller);
            queenly.crash(teller);
            queenly.wake(hearer);
            Check.same("the queen tells", 1, queenly.passDays(1));
            HoneyAccord lonely = heardByOne(teller);
            lonely.crashQueen();
            Check.same("who has heard hears no more", 0, lonely.passDays(3));
        }
        HoneyAccord stranger = Check.hive(BEES + "deal p moves a gives 1, b gives 1; deal q moves b gives 1, c gives 1;");
        stranger.begin(0);
        stranger.begin(1);
        stranger.crash(1);
        stranger.passDays(1);
        stranger.crash(0);
        stranger.crash(2);
        stranger.crashQueen();
        stranger.wakeQueen();
        stranger.wake(0);
        Check.same("a hears of p", 1, stranger.passDays(1));
        stranger.crashQueen();
        stranger.wake(2);
        Check.same("who heard of p tells nothing of q", 0, stranger.passDays(3));
        stranger.wake(1);
        Check.same("b hears of p, and not of q", 1, stranger.passDays(3));
        Check.notSo("b has not heard of q", stranger.hasHeard(1, 0));
        HoneyAccord none = Check.hive(ALL);
        none.begin(0);
        none.crashQueen();
        none.wakeQueen();
        none.crashQueen();
        Check.same("where none has heard none tells", 0, none.passDays(30));
    }

    /** Refused, and heard by one alone; the others sleep, and the queen is awake. */
    private static HoneyAccord heardByOne(int drone) {
        HoneyAccord hive = Check.hive(ALL);
        hive.begin(0);
        hive.crashQueen();
        hive.wakeQueen();
        hive.crash((drone + 1) % 3);
        hive.crash((drone + 2) % 3);
        Check.same("one hears", 1, hive.passDays(1));
        return hive;
    }

    // ---- "if it is blocked by this deal, it is so by none any more"

    private static void hearingFreesOfThisDealAlone() {
        HoneyAccord hive = Check.hive(BEES + "deal p moves a gives 3, b gives 1; deal q moves a gets 5, c gets 5;");
        hive.crash(1);
        hive.begin(0);
        hive.begin(1);
        Check.same("a and c hear of q", 2, hive.passDays(1));
        Check.same("a is blocked by p", 0, hive.blockedBy(0));
        Check.same("c is free", -1, hive.blockedBy(2));
        Check.same("nothing is got of what is refused", 10, hive.honeyOf(0));
        hive.wake(1);
        Check.same("a and b hear of p", 2, hive.passDays(1));
        Check.same("a is free", -1, hive.blockedBy(0));
        Check.same("a gave", 7, hive.honeyOf(0));
    }

    // ---- step 1: "Orders, in the order in which they are told, if the test holds as it comes to its turn"

    private static void ordersAreTestedAtTheirTurn() {
        HoneyAccord ahead = Check.hive(BEES + "crash b when not awake a; crash a;");
        ahead.passDays(1);
        Check.so("a was awake as b came to its turn", ahead.isAwake(1));
        ahead.passDays(1);
        Check.notSo("a day later it was not", ahead.isAwake(1));
        HoneyAccord behind = Check.hive(BEES + "crash a; crash b when not awake a;");
        behind.passDays(1);
        Check.notSo("a slept as b came to its turn", behind.isAwake(1));
        HoneyAccord dayOne = Check.hive(BEES + "crash a when day = 1;");
        dayOne.passDays(1);
        Check.so("not on day 0", dayOne.isAwake(0));
        dayOne.passDays(1);
        Check.notSo("on day 1", dayOne.isAwake(0));
    }

    // ---- "waits how many days ago a begun deal was begun, 0 if it is not begun"

    private static void waitsInTests() {
        String told = BEES + "deal p moves a gives 1, c gives 1; begin p when day = 2; crash c when day = 2;"
            + "crash b when waits of p = #;";
        int[] crashedOn = {0, 3, 4, 5, 99};
        for (int waits = 0; waits < crashedOn.length; waits++) {
            HoneyAccord hive = Check.hive(told.replace("#", Integer.toString(waits)));
            int day = 0;
            while (day < 20 && hive.isAwake(1)) {
                hive.passDays(1);
                day++;
            }
            Check.same("waits of " + waits, Math.min(crashedOn[waits], 19), day - 1);
        }
        HoneyAccord begun = Check.hive(ALL + "begin p; crash queen when waits of p = 0 and day = 0;");
        begun.passDays(1);
        Check.notSo("0 on the day of the beginning", begun.isQueenAwake());
        HoneyAccord over = Check.hive(ALL + "begin p when day = 0; crash queen when waits of p > 0;");
        over.passDays(9);
        Check.so("0 behind the end", over.isQueenAwake());
    }

    // ---- "done how many orders were carried out, blocked how many drones are blocked"

    private static void doneAndBlockedInTests() {
        HoneyAccord hive = Check.hive(BEES + "wake a; crash a; crash a; crash b when done = 1; crash c when done = 1;");
        hive.passDays(1);
        Check.notSo("one is done as b comes to its turn", hive.isAwake(1));
        Check.so("two are done as c comes to its turn", hive.isAwake(2));
        Check.same("done", 2, hive.ordersCarriedOut());
        for (int blocked = 0; blocked <= 3; blocked++) {
            HoneyAccord waiting = Check.hive(ALL + "drone d honey 1; deal q moves a gives 1, b gives 1, d gives 1;"
                + "crash queen when blocked = " + blocked + " and day = 1;");
            waiting.crash(3);
            waiting.begin(1);
            waiting.passDays(1);
            Check.same("two are blocked", 2, waiting.blocked());
            waiting.passDays(1);
            Check.same("blocked = " + blocked, blocked == 2 ? 0 : 1, waiting.isQueenAwake() ? 1 : 0);
        }
    }

    // ---- "awake holds if the drone, or the queen, is awake"

    private static void awakeInTests() {
        String told = BEES + "crash c when #;";
        String[] tests = {"awake a", "not awake a", "awake b", "awake queen", "not awake queen", "not not awake queen"};
        int[] asleep = {1, 0, 1, 1, 0, 1};
        int[] whenASleeps = {0, 1, 1, 1, 0, 1};
        int[] whenQueenSleeps = {1, 0, 1, 0, 1, 0};
        for (int i = 0; i < tests.length; i++) {
            HoneyAccord all = Check.hive(told.replace("#", tests[i]));
            all.passDays(1);
            Check.same(tests[i], asleep[i], all.isAwake(2) ? 0 : 1);
            HoneyAccord without = Check.hive(told.replace("#", tests[i]));
            without.crash(0);
            without.passDays(1);
            Check.same(tests[i] + ", a asleep", whenASleeps[i], without.isAwake(2) ? 0 : 1);
            HoneyAccord queenless = Check.hive(told.replace("#", tests[i]));
            queenless.crashQueen();
            queenless.passDays(1);
            Check.same(tests[i] + ", the queen asleep", whenQueenSleeps[i], queenless.isAwake(2) ? 0 : 1);
        }
    }

    // ---- "Both sides of and and or are reckoned; and binds more than or, not more than and."

    private static void andBindsMoreThanOr() {
        for (int i = 0; i < 8; i++) {
            boolean x = (i & 4) != 0;
            boolean y = (i & 2) != 0;
            boolean z = (i & 1) != 0;
            Check.same("or, and " + i, x || y && z, holds(t(x) + " or " + t(y) + " and " + t(z)));
            Check.same("and, or " + i, x && y || z, holds(t(x) + " and " + t(y) + " or " + t(z)));
            Check.same("not, and " + i, !x && y || z, holds("not " + t(x) + " and " + t(y) + " or " + t(z)));
            Check.same("and, not " + i, x && !y || z, holds(t(x) + " and not " + t(y) + " or " + t(z)));
            Check.same("not, or " + i, !x || y && z, holds("not " + t(x) + " or " + t(y) + " and " + t(z)));
            Check.same("brackets " + i, (x || y) && z, holds("[" + t(x) + " or " + t(y) + "] and " + t(z)));
            Check.same("not of brackets " + i, !(x || y) && z, holds("not [" + t(x) + " or " + t(y) + "] and " + t(z)));
            Check.same("and of brackets " + i, x && (y || z), holds(t(x) + " and [" + t(y) + " or " + t(z) + "]"));
        }
        Check.so("a quotient by 0 on the other side of or", holds("1 = 1 or 1 / day = 7"));
        Check.notSo("a quotient by 0 on the other side of and", holds("1 = 2 and 1 / day = 0"));
    }

    private static String t(boolean so) {
        return so ? "1 = 1" : "1 = 2";
    }

    private static boolean holds(String test) {
        HoneyAccord hive = Check.hive("crash queen when " + test + ";");
        hive.passDays(1);
        return !hive.isQueenAwake();
    }

    // ---- "if there is no such drone", "if there is no such deal, or it has no such part"

    private static void numbersOfDrones() {
        for (int count = 0; count <= 8; count++) {
            HoneyAccord hive = Check.hive(drones(count));
            Check.same("drones", count, hive.drones());
            for (int drone = 0; drone < count; drone++) {
                Check.same("honey of " + drone, drone, hive.honeyOf(drone));
                Check.so("awake is " + drone, hive.isAwake(drone));
                Check.same("blocker of " + drone, -1, hive.blockedBy(drone));
                Check.same("log of " + drone, 0, hive.logOf(drone));
                Check.same("free is " + drone, 0, hive.daysUntilFree(drone));
                Check.same("honey later of " + drone, drone, hive.honeyAfter(drone, 1));
                Check.same("crash of " + drone, count - 1, hive.crash(drone));
                Check.same("wake of " + drone, count, hive.wake(drone));
            }
            for (int none : new int[] {-1, count, count + 1, Integer.MIN_VALUE, Integer.MAX_VALUE}) {
                noSuchDrone(hive, none);
            }
        }
    }

    private static void noSuchDrone(HoneyAccord hive, int none) {
        long before = hive.digest();
        Check.noSuch("honeyOf " + none, () -> hive.honeyOf(none));
        Check.noSuch("isAwake " + none, () -> hive.isAwake(none));
        Check.noSuch("blockedBy " + none, () -> hive.blockedBy(none));
        Check.noSuch("logOf " + none, () -> hive.logOf(none));
        Check.noSuch("crash " + none, () -> hive.crash(none));
        Check.noSuch("wake " + none, () -> hive.wake(none));
        Check.noSuch("honeyAfter " + none, () -> hive.honeyAfter(none, 1));
        Check.noSuch("daysUntilFree " + none, () -> hive.daysUntilFree(none));
        Check.same("nothing is changed", before, hive.digest());
    }

    private static void numbersOfDealsAndParts() {
        StringBuilder text = new StringBuilder(drones(8));
        for (int deals = 0; deals <= 6; deals++) {
            HoneyAccord hive = Check.hive(text.toString());
            Check.same("deals", deals, hive.deals());
            for (int deal = 0; deal < deals; deal++) {
                Check.same("state of " + deal, 0, hive.stateOf(deal));
                Check.same("waits of " + deal, 0, hive.waitsOf(deal));
                Check.same("votes for " + deal, 0, hive.votesFor(deal));
                Check.so("agreement of " + deal, hive.wouldAgree(deal));
                Check.same("state later of " + deal, 0, hive.stateAfter(deal, 1));
                Check.same("parts of " + deal, deal + 1, hive.partsOf(deal));
                partsOfADeal(hive, deal, deal + 1);
                Check.same("begin of " + deal, deal + 1, hive.begin(deal));
            }
            for (int none : new int[] {-1, deals, deals + 1, Integer.MIN_VALUE, Integer.MAX_VALUE}) {
                noSuchDeal(hive, none);
            }
            text.append("deal ").append((char) ('p' + deals)).append(" moves h gets 1");
            for (int part = 1; part <= deals; part++) {
                text.append(", ").append((char) ('a' + part)).append(" gets ").append(part + 1);
            }
            text.append("; ");
        }
    }

    private static void partsOfADeal(HoneyAccord hive, int deal, int parts) {
        for (int part = 0; part < parts; part++) {
            Check.same("drone in " + deal + ", " + part, part == 0 ? 7 : part, hive.droneIn(deal, part));
            Check.same("change in " + deal + ", " + part, part + 1, hive.changeIn(deal, part));
            Check.same("vote in " + deal + ", " + part, 0, hive.voteIn(deal, part));
            Check.notSo("heard in " + deal + ", " + part, hive.hasHeard(deal, part));
        }
        for (int none : new int[] {-1, parts, parts + 1, Integer.MIN_VALUE, Integer.MAX_VALUE}) {
            noSuchPart(hive, deal, none);
        }
    }

    private static void noSuchPart(HoneyAccord hive, int deal, int part) {
        Check.noSuch("droneIn " + deal + ", " + part, () -> hive.droneIn(deal, part));
        Check.noSuch("changeIn " + deal + ", " + part, () -> hive.changeIn(deal, part));
        Check.noSuch("voteIn " + deal + ", " + part, () -> hive.voteIn(deal, part));
        Check.noSuch("hasHeard " + deal + ", " + part, () -> hive.hasHeard(deal, part));
    }

    private static void noSuchDeal(HoneyAccord hive, int none) {
        long before = hive.digest();
        Check.noSuch("stateOf " + none, () -> hive.stateOf(none));
        Check.noSuch("waitsOf " + none, () -> hive.waitsOf(none));
        Check.noSuch("partsOf " + none, () -> hive.partsOf(none));
        Check.noSuch("votesFor " + none, () -> hive.votesFor(none));
        Check.noSuch("wouldAgree " + none, () -> hive.wouldAgree(none));
        Check.noSuch("begin " + none, () -> hive.begin(none));
        Check.noSuch("stateAfter " + none, () -> hive.stateAfter(none, 1));
        for (int part : new int[] {-1, 0, 1}) {
            noSuchPart(hive, none, part);
        }
        Check.same("nothing is changed", before, hive.digest());
    }

    private static void numbersAreOfTheLatestTeach() {
        HoneyAccord hive = Check.hive(drones(8) + "deal p moves a gets 1, b gets 1; deal q moves a gets 1;");
        Check.learns(hive, "drone z honey 4; deal y moves z gives 2;");
        Check.same("the only drone", 4, hive.honeyOf(0));
        Check.same("the only part", -2, hive.changeIn(0, 0));
        noSuchDrone(hive, 1);
        noSuchDeal(hive, 1);
        noSuchPart(hive, 0, 1);
        Check.feed(hive, drones(8) + "?");
        Check.same("an error", 1, hive.teach());
        noSuchDrone(hive, 1);
        Check.learns(hive, "");
        noSuchDrone(hive, 0);
        noSuchDeal(hive, 0);
    }

    // ---- promises 6 to 12

    private static void countsFromNoneToAll() {
        HoneyAccord none = new HoneyAccord();
        Check.same("no honey", 0, none.honey());
        Check.same("none is blocked", 0, none.blocked());
        Check.same("days without drones", 0, none.passDays(30));
        Check.same("they go by", 30, none.day());
        StringBuilder text = new StringBuilder();
        for (int i = 0; i < 8; i++) {
            text.append("drone ").append((char) ('a' + i)).append(" honey 60; ");
        }
        text.append("deal p moves a gives 1, b gives 1, c gives 1, d gives 1; deal q moves e gives 1, f gives 1, g gives 1, h gives 1;");
        HoneyAccord ordered = Check.hive(text + "begin p; begin q; crash queen;");
        Check.same("honey of eight", 480, ordered.honey());
        ordered.crash(3);
        ordered.begin(0);
        ordered.passDays(1);
        Check.same("she crashes ahead of the votes", 0, ordered.blocked());
        Check.same("what is done by hand is no order", 2, ordered.ordersCarriedOut());
        HoneyAccord waiting = Check.hive(text.toString());
        waiting.crash(3);
        waiting.crash(7);
        waiting.begin(0);
        waiting.begin(1);
        waiting.passDays(1);
        Check.same("six of eight are blocked", 6, waiting.blocked());
        waiting.crash(0);
        waiting.crash(4);
        waiting.wake(3);
        waiting.wake(7);
        Check.same("six hear", 6, waiting.passDays(1));
        Check.same("two sleep and are blocked", 2, waiting.blocked());
        Check.same("a by p", 0, waiting.blockedBy(0));
        Check.same("e by q", 1, waiting.blockedBy(4));
    }

    // ---- promise 16: "one for each time it voted yes, and one for each time it heard"

    private static void logCountsYesAndHearing() {
        HoneyAccord hive = Check.hive("drone a honey 1; drone b honey 0; deal p moves a gives 1; deal q moves b gives 1, a gets 1;");
        hive.begin(0);
        hive.passDays(1);
        Check.same("a yes and a hearing", 2, hive.logOf(0));
        hive.begin(0);
        hive.passDays(1);
        Check.same("a no and a hearing", 3, hive.logOf(0));
        hive.begin(1);
        hive.crash(0);
        hive.passDays(1);
        Check.same("asleep nothing", 3, hive.logOf(0));
        Check.same("b: a no and a hearing", 1, hive.logOf(1));
        hive.wake(0);
        hive.passDays(1);
        Check.same("a hearing alone", 4, hive.logOf(0));
        Check.same("nothing more", 0, hive.passDays(30));
        Check.same("nothing more in the log", 4, hive.logOf(0));
    }

    // ---- promise 25: "whether all drones of its parts would vote yes now, asleep or not"

    private static void agreementNeedsAll() {
        for (int poor = 0; poor < 6; poor++) {
            StringBuilder text = new StringBuilder();
            StringBuilder deal = new StringBuilder("deal p moves ");
            for (int i = 0; i < 6; i++) {
                text.append("drone ").append((char) ('a' + i)).append(" honey ").append(i == poor ? 4 : 5).append("; ");
                deal.append(i > 0 ? ", " : "").append((char) ('a' + i)).append(" gives 5");
            }
            HoneyAccord hive = Check.hive(text.toString() + deal + "; deal q moves " + (char) ('a' + poor) + " gets 1;");
            Check.notSo("not with 4 of " + poor, hive.wouldAgree(0));
            hive.begin(1);
            hive.passDays(1);
            Check.so("with 5 of all", hive.wouldAgree(0));
            for (int i = 0; i < 6; i++) {
                hive.crash(i);
            }
            Check.so("asleep or not", hive.wouldAgree(0));
            hive.crashQueen();
            Check.so("without the queen", hive.wouldAgree(0));
        }
        HoneyAccord blocked = Check.hive(ALL + "deal q moves a gives 1;");
        blocked.crash(1);
        blocked.begin(0);
        Check.so("none is blocked yet", blocked.wouldAgree(0));
        blocked.passDays(1);
        Check.notSo("a is blocked by this", blocked.wouldAgree(0));
        Check.notSo("a is blocked by another", blocked.wouldAgree(1));
    }

    // ---- promises 31 to 33: "if days is not 1 to 30"

    private static void daysAre1To30() {
        HoneyAccord hive = Check.hive(ALL);
        for (int days : new int[] {1, 2, 29, 30}) {
            HoneyAccord passing = Check.hive(ALL);
            Check.same("nothing is heard", 0, passing.passDays(days));
            Check.same("days gone by", days, passing.day());
            Check.same("honeyAfter " + days, 10, hive.honeyAfter(0, days));
            Check.same("stateAfter " + days, 0, hive.stateAfter(0, days));
        }
        for (int days : new int[] {0, -1, 31, 32, Integer.MIN_VALUE, Integer.MAX_VALUE}) {
            long before = hive.digest();
            Check.notAllowed("passDays " + days, () -> hive.passDays(days));
            Check.notAllowed("honeyAfter " + days, () -> hive.honeyAfter(0, days));
            Check.notAllowed("stateAfter " + days, () -> hive.stateAfter(0, days));
            Check.same("nothing is changed", before, hive.digest());
        }
    }

    private static void foretellingEndsOnTheDay() {
        for (int day = 0; day < 31; day++) {
            HoneyAccord hive = Check.hive(ALL + "begin p when day = " + day + ";");
            if (day > 0) {
                Check.same("honey ahead of day " + day, 10, hive.honeyAfter(0, day));
                Check.same("state ahead of day " + day, 0, hive.stateAfter(0, day));
            }
            if (day < 30) {
                Check.same("honey behind day " + day, 9, hive.honeyAfter(0, day + 1));
                Check.same("state behind day " + day, 2, hive.stateAfter(0, day + 1));
            }
            Check.same("the day stays", 0, hive.day());
            Check.same("hearings in 30 days", day < 30 ? 3 : 0, hive.passDays(30));
        }
        HoneyAccord states = Check.hive(ALL);
        states.crash(2);
        states.begin(0);
        int[] due = {1, 1, 1, 3, 3};
        for (int days = 1; days <= due.length; days++) {
            Check.same("state behind " + days, due[days - 1], states.stateAfter(0, days));
        }
    }

    /** What has come about so far counts in the tests of the days that are foretold. */
    private static void foretellingBeginsWithAllThatIs() {
        String bees = "drone a honey 10; drone b honey 10; drone s honey 0; drone t honey 0; deal p moves a gives 1, b gives 1; ";
        String[] tests = {"done = 2 and day > 2", "day = 3", "honey of a = 9 and day = 4", "waits of p = 0 and day = 4",
            "not awake s and day = 5", "blocked = 0 and done = 2 and day = 6"};
        for (String test : tests) {
            HoneyAccord hive = Check.hive(bees + "begin p when day = 0; crash s when day = 2; begin p when " + test + ";");
            hive.passDays(3);
            Check.same("honey of a, " + test, 8, hive.honeyAfter(0, 5));
            Check.same("two were done", 2, hive.ordersCarriedOut());
            hive.passDays(5);
            Check.same("it comes true, " + test, 8, hive.honeyOf(0));
            Check.same("three are done", 3, hive.ordersCarriedOut());
        }
        HoneyAccord waiting = Check.hive(bees + "begin p when day = 0; crash b when day = 0; wake b when waits of p = 2;");
        waiting.passDays(1);
        Check.same("free as b is woken by its waiting", 2, waiting.daysUntilFree(0));
        Check.same("honey then", 9, waiting.honeyAfter(0, 2));
        HoneyAccord woken = Check.hive(bees + "begin p when done = 2; crash b when day = 0; crash s when day = 0;");
        woken.passDays(1);
        Check.same("b, as a deal that waits for it is begun now", 1, woken.bestToWake());
    }

    // ---- promise 34: "0 if it is so now, at most 40; -1 if not by then"

    private static void freeBehind0To40Days() {
        for (int wakes : new int[] {2, 3, 39, 40, 41, 42}) {
            HoneyAccord hive = Check.hive(ALL + "begin p when day = 0; crash c when day = 0; crash queen when day = 1;"
                + "wake queen when day = " + wakes + ";");
            Check.same("free at first", 0, hive.daysUntilFree(0));
            hive.passDays(1);
            Check.same("she wakes on day " + wakes, wakes <= 40 ? wakes : -1, hive.daysUntilFree(0));
            Check.same("b as well", wakes <= 40 ? wakes : -1, hive.daysUntilFree(1));
            Check.same("c is free", 0, hive.daysUntilFree(2));
            hive.passDays(1);
            Check.same("a day later", wakes <= 41 ? wakes - 1 : -1, hive.daysUntilFree(0));
            Check.same("nothing is changed", 2, hive.day());
        }
        HoneyAccord never = Check.hive(ALL);
        never.crash(2);
        never.begin(0);
        never.passDays(1);
        Check.same("refused by waiting", 3, never.daysUntilFree(0));
        never.crash(0);
        Check.same("asleep it hears of nothing", -1, never.daysUntilFree(0));
        Check.same("b does", 3, never.daysUntilFree(1));
    }

    // ---- promise 35: "the fewest drones are blocked three days later"

    private static void threeDaysDecideWhomToWake() {
        int[] due = {2, 2, 2, 0, 0};
        for (int day = 0; day < due.length; day++) {
            HoneyAccord hive = Check.hive("drone o honey 1; " + ALL + "begin p when day = " + day + ";");
            hive.crash(0);
            hive.crash(2);
            Check.same("begun on day " + day, due[day], hive.bestToWake());
            Check.same("nothing is changed", 0, hive.day());
        }
    }

    private static void fewestBlockedDecideWhomToWake() {
        HoneyAccord hive = Check.hive(ALL + "drone d honey 1; deal q moves d gives 1, c gives 1; begin q when day = 1;");
        Check.same("none sleeps", -1, hive.bestToWake());
        hive.crashQueen();
        Check.same("the queen is no drone", -1, hive.bestToWake());
        hive.wakeQueen();
        hive.crash(3);
        Check.same("the only one that sleeps", 3, hive.bestToWake());
        hive.crash(2);
        Check.same("c would block itself as well as d, so the smaller number", 2, hive.bestToWake());
        hive.crash(1);
        Check.same("b has no part in it, so none is blocked", 1, hive.bestToWake());
        hive.crash(0);
        Check.same("neither has a, of the smaller number", 0, hive.bestToWake());
        HoneyAccord held = Check.hive("drone a honey 9; drone b honey 9; drone c honey 9; deal p moves a gives 1, b gives 1; begin p when day = 1;");
        held.crash(0);
        held.crash(1);
        Check.same("a or b would wait alone, both alike", 0, held.bestToWake());
        held.crash(2);
        Check.same("c blocks none", 2, held.bestToWake());
    }

    // ---- promise 36: "the mean honey of drones; 0 without any"

    private static void meanOfNoneAndAll() {
        Check.same("without drones", 0.0, new HoneyAccord().meanHoney());
        Check.same("of one without honey", 0.0, Check.hive("drone a honey 0;").meanHoney());
        for (int count = 1; count <= 8; count++) {
            HoneyAccord hive = Check.hive(drones(count));
            Check.same("of 0 to " + (count - 1), (count - 1) / 2.0, hive.meanHoney());
            Check.same("in all", count * (count - 1) / 2, hive.honey());
        }
        Check.same("of 1, 0 and 0", 1.0 / 3, Check.hive("drone a honey 1; drone b honey 0; drone c honey 0;").meanHoney());
        Check.same("of 60 and 59", 59.5, Check.hive("drone a honey 60; drone b honey 59;").meanHoney());
    }

    // ---- promise 37: "d becomes d * 31 + x, which wraps around as a 64-bit integer"

    private static void digestWrapsIn64Bits() {
        Check.same("of a new object", digestOf(0, 0, 0, 0, 0, 0, 1, -1), new HoneyAccord().digest());
        HoneyAccord two = Check.hive("drone a honey 3; drone b honey 4;");
        Check.same("of two drones", digestOf(2, 0, 0, 0, 0, 7, 1, -1, 3, 1, -1, 0, 0, 4, 1, -1, 0, 0), two.digest());
        HoneyAccord hive = Check.hive("drone a honey 3; drone b honey 4; deal p moves a gives 1, b gives 2; crash b;");
        hive.begin(0);
        hive.passDays(1);
        Check.same("of a deal that waits", digestOf(2, 1, 1, 1, 1, 7, 1, 1, 3, 1, 0, 1, 3, 4, 0, -1, 0, 0, 1, 1, 1, 0, 1, 0, 0, 0),
            hive.digest());
        hive.crashQueen();
        Check.same("without the queen", digestOf(2, 1, 1, 1, 1, 7, 0, 1, 3, 1, 0, 1, -1, 4, 0, -1, 0, 0, 1, 1, 1, 0, 1, 0, 0, 0),
            hive.digest());
        hive.wakeQueen();
        hive.passDays(1);
        Check.same("refused", digestOf(2, 1, 2, 1, 0, 7, 1, 1, 3, 1, -1, 2, 0, 4, 0, -1, 0, 0, 3, 0, 1, 1, 1, 1, 0, 0),
            hive.digest());
    }

    private static long digestOf(int... numbers) {
        BigInteger d = BigInteger.valueOf(1087);
        for (int x : numbers) {
            d = d.multiply(BigInteger.valueOf(31)).add(BigInteger.valueOf(x));
        }
        return d.longValue();
    }

    // ---- "A method that throws an exception changes nothing."

    private static void throwingChangesNothing() {
        HoneyAccord hive = Check.hive(ALL + "begin p when day = 3;");
        Check.feed(hive, Check.times(1990, " "));
        hive.crash(1);
        hive.begin(0);
        hive.passDays(1);
        long before = hive.digest();
        Check.cannot("feed", () -> hive.feed(1, 2, 3, 4, 5));
        Check.notAllowed("trim", () -> hive.trim(1991));
        Check.notAllowed("trim below 0", () -> hive.trim(-1));
        Check.cannot("begin", () -> hive.begin(0));
        Check.cannot("crash", () -> hive.crash(1));
        Check.cannot("wake", () -> hive.wake(0));
        Check.cannot("wakeQueen", () -> hive.wakeQueen());
        Check.notAllowed("passDays", () -> hive.passDays(0));
        noSuchDrone(hive, 3);
        noSuchDeal(hive, 1);
        Check.same("all stays", before, hive.digest());
        hive.crashQueen();
        long asleep = hive.digest();
        Check.cannot("crashQueen", () -> hive.crashQueen());
        Check.cannot("begin without her", () -> hive.begin(0));
        Check.same("all stays without her", asleep, hive.digest());
        Check.same("the error's position stays", -1, hive.errorAt());
        Check.same("the tape stays", 1990, hive.trim(1990));
        Check.same("and is blank as it was", 0, hive.teach());
    }

    // ---- "If several exceptions apply, the one that is named first is thrown."

    private static void firstNamedExceptionIsThrown() {
        HoneyAccord hive = Check.hive(ALL);
        Check.noSuch("honeyAfter of none in no days", () -> hive.honeyAfter(3, 0));
        Check.notAllowed("honeyAfter in no days", () -> hive.honeyAfter(2, 0));
        Check.noSuch("honeyAfter of none in 31 days", () -> hive.honeyAfter(-1, 31));
        Check.notAllowed("honeyAfter in 31 days", () -> hive.honeyAfter(0, 31));
        Check.noSuch("stateAfter of none in no days", () -> hive.stateAfter(1, 0));
        Check.notAllowed("stateAfter in no days", () -> hive.stateAfter(0, 0));
        Check.noSuch("stateAfter of none in 31 days", () -> hive.stateAfter(-1, 31));
        Check.notAllowed("stateAfter in 31 days", () -> hive.stateAfter(0, 31));
        hive.crashQueen();
        Check.noSuch("begin of none without the queen", () -> hive.begin(1));
        Check.cannot("begin without the queen", () -> hive.begin(0));
    }

    // ---- "An object is used for at most 512 calls"

    /** Two objects, of which one lets the same days go by in more calls, agree to the last of its 512. */
    private static void anObjectLasts512Calls() {
        String text = ALL + "begin p; crash a when day / 7 * 7 = day; wake a when day / 5 * 5 = day;"
            + "crash queen when day / 30 * 30 = day; wake queen when day / 31 * 31 = day;";
        HoneyAccord busy = new HoneyAccord();
        int calls = 2 + (text.length() + 19) / 20;
        Check.feed(busy, text);
        Check.same("teach", 0, busy.teach());
        HoneyAccord calm = Check.hive(text);
        int heard = 0;
        int days = 0;
        while (calls < 506) {
            heard += busy.passDays(7);
            days += 7;
            calls++;
        }
        int heardAtOnce = 0;
        for (int left = days; left > 0; left -= 30) {
            heardAtOnce += calm.passDays(Math.min(left, 30));
        }
        Check.so("more than 3000 days", days > 3000);
        Check.same("the day, call 507", days, busy.day());
        Check.same("hearings", heardAtOnce, heard);
        Check.same("orders, call 508", calm.ordersCarriedOut(), busy.ordersCarriedOut());
        Check.same("log, call 509", calm.logOf(1), busy.logOf(1));
        Check.same("foretold, call 510", calm.honeyAfter(1, 30), busy.honeyAfter(1, 30));
        Check.same("errorAt, call 511", -1, busy.errorAt());
        Check.same("digest, call 512", calm.digest(), busy.digest());
        HoneyAccord honest = new HoneyAccord();
        for (int i = 0; i < 256; i++) {
            Check.same("feed " + i, 20, honest.feed(i, i, i, i, i));
            Check.same("teach " + i, 1, honest.teach());
        }
    }

    private static String drones(int count) {
        StringBuilder text = new StringBuilder();
        for (int i = 0; i < count; i++) {
            text.append("drone ").append((char) ('a' + i)).append(" honey ").append(i).append("; ");
        }
        return text.toString();
    }
}
