/** Promises 1 to 5: a new object, the tape, and what is read from it. */
public final class LanguageTest {

    private static final String TWO = "drone a honey 5; drone b honey 6; ";
    private static final String DEAL = "deal d moves a gives 1; ";

    public static void main(String[] args) {
        newObject();
        feedCountsBytes();
        feedRefusesMoreThan2000();
        feedPutsHighestByteFirst();
        trimKeepsTheFirst();
        trimRefuses();
        teachEmptiesTheTape();
        teachBeginsAnew();
        teachForgetsVotesAndHearing();
        teachCanBeCalledAgainAndAgain();
        teachWithAnErrorChangesNothing();
        errorAtIsOfTheLatest();
        tokensAreRead();
        wordsThatAreNoTokens();
        linesThatAreNone();
        testsThatAreNone();
        everyFormIsTaken();
        depthIsAtMost8();
        tokensAreAtMost400();
        namesToldTwice();
        namesOfTheWrongKind();
        tooMany();
        numbersOutOfRange();
        theFirstErrorIsTold();
        Check.finish();
    }

    private static void newObject() {
        HoneyAccord hive = new HoneyAccord();
        Check.same("drones of a new object", 0, hive.drones());
        Check.same("deals of a new object", 0, hive.deals());
        Check.same("day of a new object", 0, hive.day());
        Check.same("orders of a new object", 0, hive.ordersCarriedOut());
        Check.so("the queen of a new object is awake", hive.isQueenAwake());
        Check.same("the tape of a new object", 20, hive.feed(0, 0, 0, 0, 0));
    }

    private static void feedCountsBytes() {
        HoneyAccord hive = new HoneyAccord();
        Check.same("first feed", 20, hive.feed(1, 2, 3, 4, 5));
        Check.same("second feed", 40, hive.feed(-1, Integer.MIN_VALUE, Integer.MAX_VALUE, 0, 0));
        hive.trim(33);
        Check.same("feed behind trim", 53, hive.feed(0, 0, 0, 0, 0));
    }

    private static void feedRefusesMoreThan2000() {
        HoneyAccord hive = new HoneyAccord();
        for (int i = 1; i <= 100; i++) {
            Check.same("feed " + i, 20 * i, hive.feed(0x20202020, 0x20202020, 0x20202020, 0x20202020, 0x20202020));
        }
        Check.cannot("feed 101", () -> hive.feed(0, 0, 0, 0, 0));
        hive.trim(1981);
        Check.cannot("feed to 2001", () -> hive.feed(0, 0, 0, 0, 0));
        Check.same("a feed that throws adds nothing", 1981, hive.trim(1981));
        Check.notAllowed("a feed that throws adds no byte", () -> hive.trim(1982));
        Check.same("blanks are a hive", 0, hive.teach());
        Check.same("feed behind teach", 20, hive.feed(0, 0, 0, 0, 0));
    }

    private static void feedPutsHighestByteFirst() {
        HoneyAccord hive = new HoneyAccord();
        hive.feed(0x64726f6e, 0x65206120, 0x686f6e65, 0x79203720, 0x3b202020);
        Check.same("teach of drone a honey 7 ;", 0, hive.teach());
        Check.same("its honey", 7, hive.honeyOf(0));
        hive.feed(0x20202020, 0x20202020, 0x20202020, 0x20202020, 0x202020ff);
        Check.same("teach of a byte 255", 1, hive.teach());
        Check.same("the 20th byte is the lowest of the 5th number", 19, hive.errorAt());
        hive.feed(0x20202020, 0x2020e120, 0x20202020, 0x20202020, 0x20202020);
        Check.same("a letter's byte with 128 more is none", 1, hive.teach());
        Check.same("the 7th byte is the third of the 2nd number", 6, hive.errorAt());
    }

    private static void trimKeepsTheFirst() {
        HoneyAccord hive = new HoneyAccord();
        Check.same("trim of an empty tape", 0, hive.trim(0));
        Check.feed(hive, "drone a honey 12;  ##");
        Check.same("trim to all", 21, hive.trim(21));
        Check.same("trim", 17, hive.trim(17));
        Check.same("teach of what is left", 0, hive.teach());
        Check.same("its honey", 12, hive.honeyOf(0));
    }

    private static void trimRefuses() {
        HoneyAccord hive = new HoneyAccord();
        hive.feed(0, 0, 0, 0, 0);
        Check.notAllowed("trim(-1)", () -> hive.trim(-1));
        Check.notAllowed("trim(21)", () -> hive.trim(21));
        Check.notAllowed("trim of the smallest", () -> hive.trim(Integer.MIN_VALUE));
        Check.notAllowed("trim of the greatest", () -> hive.trim(Integer.MAX_VALUE));
        Check.same("a trim that throws changes nothing", 40, hive.feed(0, 0, 0, 0, 0));
    }

    private static void teachEmptiesTheTape() {
        HoneyAccord hive = new HoneyAccord();
        Check.feed(hive, "drone a honey 1;");
        hive.teach();
        Check.notAllowed("the tape is empty behind teach", () -> hive.trim(1));
        Check.feed(hive, "drone");
        hive.teach();
        Check.notAllowed("the tape is empty behind an error", () -> hive.trim(1));
    }

    private static void teachBeginsAnew() {
        HoneyAccord hive = Check.hive(TWO + DEAL + "begin d; crash queen when day = 1;");
        hive.passDays(2);
        hive.crash(1);
        hive.teach();
        Check.same("an empty tape is a hive without drones", 0, hive.drones());
        Check.same("deals of it", 0, hive.deals());
        Check.same("day of it", 0, hive.day());
        Check.same("orders of it", 0, hive.ordersCarriedOut());
        Check.so("its queen is awake", hive.isQueenAwake());
        Check.learns(hive, TWO + DEAL);
        hive.begin(0);
        hive.crash(0);
        hive.passDays(3);
        Check.learns(hive, "drone x honey 9; deal y moves x gets 2;");
        Check.same("drones of the new", 1, hive.drones());
        Check.same("honey of the new", 9, hive.honey());
        Check.same("state of the new", 0, hive.stateOf(0));
        Check.same("log of the new", 0, hive.logOf(0));
        Check.so("all are awake in the new", hive.isAwake(0));
        Check.same("the orders of the old are gone", 0, hive.passDays(3));
        Check.same("none was carried out", 0, hive.ordersCarriedOut());
    }

    private static void teachForgetsVotesAndHearing() {
        String text = TWO + "deal d moves a gives 1, b gives 1; begin d when day = 9;";
        HoneyAccord hive = Check.hive(text);
        hive.begin(0);
        hive.passDays(1);
        long voted = hive.voteIn(0, 0) * hive.voteIn(0, 1);
        Check.same("both voted", 1, voted);
        Check.learns(hive, text);
        for (int part = 0; part < 2; part++) {
            Check.same("no vote of part " + part, 0, hive.voteIn(0, part));
            Check.notSo("no hearing of part " + part, hive.hasHeard(0, part));
        }
        Check.same("it is as new", Check.hive(text).digest(), hive.digest());
    }

    private static void teachCanBeCalledAgainAndAgain() {
        HoneyAccord hive = new HoneyAccord();
        String full = "wake queen when 1 = - 1" + Check.times(196, "+1") + ";";
        for (int i = 0; i < 5; i++) {
            Check.learns(hive, full);
            Check.learns(hive, "crash queen when 1 = 2; crash queen when day = 1;");
            hive.passDays(1);
            Check.so("the first test fails", hive.isQueenAwake());
            hive.passDays(1);
            Check.notSo("the second holds", hive.isQueenAwake());
        }
    }

    private static void teachWithAnErrorChangesNothing() {
        HoneyAccord hive = Check.hive(TWO + DEAL + "begin d when day = 1;");
        hive.crash(1);
        hive.passDays(2);
        long before = hive.digest();
        for (String text : new String[] {"drone z honey 9; drone", "drone z honey 9; drone z honey 9;",
            "begin d;", "drone z honey 99;"}) {
            Check.feed(hive, text);
            Check.so("an error of " + text, hive.teach() > 0);
            Check.same("all stays behind " + text, before, hive.digest());
        }
        Check.same("the deal stays", -1, hive.changeIn(0, 0));
        Check.same("the day stays", 2, hive.day());
    }

    private static void errorAtIsOfTheLatest() {
        HoneyAccord hive = new HoneyAccord();
        Check.same("errorAt without a teach", -1, hive.errorAt());
        Check.feed(hive, "  ?");
        Check.same("teach of ?", 1, hive.teach());
        Check.same("errorAt of ?", 2, hive.errorAt());
        Check.feed(hive, "drone a honey 1;");
        Check.same("errorAt behind a feed", 2, hive.errorAt());
        hive.teach();
        Check.same("errorAt behind a teach without error", -1, hive.errorAt());
        Check.feed(hive, "drone a honey 61;");
        Check.same("teach of 61", 5, hive.teach());
        Check.same("errorAt of 61", 14, hive.errorAt());
        Check.learns(hive, "drone a honey 60;");
        Check.feed(hive, "drone a honey 1; begin a;");
        Check.same("teach of a deal that is none", 3, hive.teach());
        Check.same("errorAt of it", 23, hive.errorAt());
        Check.same("teach of nothing", 0, hive.teach());
        Check.same("errorAt of nothing", -1, hive.errorAt());
    }

    private static void tokensAreRead() {
        HoneyAccord hive = Check.hive("\n\n drone\na honey\n\n000007;drone a1b2c3d4e5 honey 0;drone dronea honey 60 ; \n");
        Check.same("drones", 3, hive.drones());
        Check.same("honey with zeros ahead", 7, hive.honeyOf(0));
        Check.same("honey 60", 60, hive.honeyOf(2));
        Check.hive("drone a honey 1;wake a when 1<=2and 3>=2or-1<-2;");
        Check.hive("drone a honey 1;deal d moves a gets 3;wake a when[1=1]and not[awake a];");
        Check.hive("drone a honey 1;drone drones honey 2;drone honey2 honey 3;drone z honey 4;");
    }

    private static void wordsThatAreNoTokens() {
        Check.wrong(1, "drone ^abcdefghijk honey 1;");
        Check.wrong(1, "drone a honey ^0000001;");
        Check.wrong(1, "drone ^Ann honey 1;");
        Check.wrong(1, "drone a^_b honey 1;");
        Check.wrong(1, "drone a honey 1;^\t");
        Check.wrong(1, "drone a honey 1;^\r\n");
        Check.wrong(1, "drone^\0a honey 1;");
        Check.wrong(1, "drone a^\u0080 honey 1;");
        Check.wrong(1, "^dronea honey 1;");
        Check.wrong(1, "drone ^7up honey 1;");
        Check.wrong(1, "drone ^when honey 1;");
        Check.wrong(1, "wake queen when 1 ^! = 1;");
        Check.wrong(1, "wake queen when 1 < ^= 1;");
        Check.wrong(1, "wake queen when 1 >= ^= 1;");
        Check.wrong(1, "wake queen when 1 =^< 1;");
    }

    private static void linesThatAreNone() {
        Check.wrong(1, "^;");
        Check.wrong(1, "^a;");
        Check.wrong(1, "drone^");
        Check.wrong(1, "drone a honey 1  \n^");
        Check.wrong(1, "drone a ^moves 1;");
        Check.wrong(1, "drone a honey ^a;");
        Check.wrong(1, "drone a honey ^-1;");
        Check.wrong(1, "drone a honey 1 ^drone b honey 1;");
        Check.wrong(1, "drone a honey 1;^;");
        Check.wrong(1, TWO + "deal d ^honey a gives 1;");
        Check.wrong(1, TWO + "deal d moves^;");
        Check.wrong(1, TWO + "deal d moves a ^takes 1;");
        Check.wrong(1, TWO + "deal d moves a gives ^b;");
        Check.wrong(1, TWO + "deal d moves a gives 1,^;");
        Check.wrong(1, TWO + "deal d moves a gives 1 ^b gets 1;");
        Check.wrong(1, TWO + "deal d moves ^queen gives 1;");
        Check.wrong(1, TWO + "deal d moves a gives 1 ^when 1 = 1;");
        Check.wrong(1, TWO + DEAL + "begin ^queen;");
        Check.wrong(1, TWO + DEAL + "begin d ^d;");
        Check.wrong(1, TWO + "crash^;");
        Check.wrong(1, TWO + "wake ^1;");
        Check.wrong(1, TWO + "^moves a;");
    }

    private static void testsThatAreNone() {
        Check.wrong(1, "wake queen when^;");
        Check.wrong(1, "wake queen when 1^;");
        Check.wrong(1, "wake queen when 1 < 2 ^< 3;");
        Check.wrong(1, "wake queen when 1 = 1 and^;");
        Check.wrong(1, "wake queen when 1 = 1 or ^or 1 = 1;");
        Check.wrong(1, "wake queen when [1 = 1^;");
        Check.wrong(1, "wake queen when (1 ^= 1);");
        Check.wrong(1, "wake queen when [1^];");
        Check.wrong(1, "wake queen when (^[1 = 1]);");
        Check.wrong(1, "wake queen when -^not 1 = 1;");
        Check.wrong(1, "wake queen when awake^;");
        Check.wrong(1, "wake queen when awake queen ^= 1;");
        Check.wrong(1, "wake queen when awake ^day;");
        Check.wrong(1, "wake queen when not^;");
        Check.wrong(1, "wake queen when 1 ^not = 1;");
        Check.wrong(1, "wake queen when ^+1 = 1;");
        Check.wrong(1, "wake queen when 1 + ^* 2 = 1;");
        Check.wrong(1, "wake queen when day ^of = 1;");
        Check.wrong(1, TWO + "wake queen when honey ^a = 1;");
        Check.wrong(1, TWO + "wake queen when honey of ^queen = 1;");
        Check.wrong(1, TWO + "wake queen when ^a = 1;");
        Check.wrong(1, "wake queen when min ^1 = 1;");
        Check.wrong(1, "wake queen when min(1^) = 1;");
        Check.wrong(1, "wake queen when max(1, 2^, 3) = 1;");
        Check.wrong(1, "wake queen when (1^, 2) = 1;");
        Check.wrong(1, "wake queen when 1 = 1^];");
    }

    private static void everyFormIsTaken() {
        HoneyAccord hive = Check.hive(TWO + "deal d moves a gives 1, b gets 20; deal e moves b gives 2;"
            + "begin d; crash a; wake a; crash queen; wake queen;"
            + "begin e when waits of d = 0 and honey of a < 9 or not awake queen and awake b;"
            + "crash b when [1 < 2 or 3 > 2] and - -day <= done * 2 / (blocked + 1) - min(1, max(2, 3));");
        Check.same("drones", 2, hive.drones());
        Check.same("deals", 2, hive.deals());
        Check.same("parts", 2, hive.partsOf(0));
    }

    private static void depthIsAtMost8() {
        String start = "wake queen when ";
        Check.hive(start + Check.times(8, "(") + "1" + Check.times(8, ")") + " = 1;");
        Check.wrong(1, start + Check.times(8, "(") + "^(1" + Check.times(9, ")") + " = 1;");
        Check.hive(start + Check.times(8, "[") + "1 = 1" + Check.times(8, "]") + ";");
        Check.wrong(1, start + Check.times(8, "[") + "^[1 = 1" + Check.times(9, "]") + ";");
        Check.hive(start + Check.times(8, "-") + "1 = 1;");
        Check.wrong(1, start + Check.times(8, "-") + "^-1 = 1;");
        Check.hive(start + Check.times(8, "not ") + "1 = 1;");
        Check.wrong(1, start + Check.times(8, "not ") + "^not 1 = 1;");
        Check.hive(start + Check.times(8, "min(1, ") + "1" + Check.times(8, ")") + " = 1;");
        Check.wrong(1, start + Check.times(8, "max(1, ") + "min^(1, 1)" + Check.times(8, ")") + " = 1;");
        Check.hive(start + Check.times(8, "max(") + "1" + Check.times(8, ", 1)") + " = 1;");
        Check.wrong(1, start + Check.times(8, "min(") + "max^(1, 1)" + Check.times(8, ", 1)") + " = 1;");
        Check.hive(start + "not [not [(-(-1)) = -(1)]];");
        Check.wrong(1, start + "not [not [(-(-^((1)))) = 1]];");
        Check.wrong(1, start + "not [not [not not -(1) = -(^-1)]];");
        Check.hive(start + Check.times(8, "not ") + "1 = 1 and " + Check.times(8, "-") + "1 - (1) = 1 or [(1) = 1];");
        Check.hive(start + "-1 = -1" + Check.times(20, " and -1 = (1)") + ";");
    }

    private static void tokensAreAtMost400() {
        String full = "wake queen when 1 = - 1" + Check.times(196, "+1") + ";";
        Check.hive(full);
        Check.hive(full + " \n ");
        Check.wrong(1, full + "  ^wake queen;");
        Check.wrong(1, full + "^zzzzzzzzzzzzzzz");
        Check.wrong(1, full + "^#");
        Check.hive("wake queen;" + "wake queen when 1 = 1" + Check.times(195, "+1") + ";");
        String open = "wake queen when 1 = 1" + Check.times(197, "+1");
        Check.wrong(1, open + "^;");
        Check.wrong(1, open + " ^");
        Check.wrong(1, open.replace("when 1", "when 1 ^1"));
    }

    private static void namesToldTwice() {
        Check.wrong(2, "drone a honey 5; drone ^a honey 5;");
        Check.wrong(2, "drone a honey 5; deal ^a moves a gives 1;");
        Check.wrong(2, TWO + DEAL + "drone ^d honey 1;");
        Check.wrong(2, TWO + DEAL + "deal ^d moves b gives 1;");
        Check.wrong(2, eightDrones() + "drone ^h honey 1;");
        Check.wrong(2, eightDrones() + sixDeals() + "deal ^h moves a gives 1;");
        Check.hive("drone abcdefghij honey 1; drone abcdefghi honey 1; drone abcdefghi0 honey 1;"
            + "drone abcdefghi9 honey 1; drone bbcdefghij honey 1;");
    }

    private static void namesOfTheWrongKind() {
        Check.wrong(3, "deal d moves ^a gives 1; drone a honey 5;");
        Check.wrong(3, TWO + "deal d moves ^d gives 1;");
        Check.wrong(3, TWO + DEAL + "deal e moves a gives 1, ^d gets 1;");
        Check.wrong(3, TWO + "begin ^a;");
        Check.wrong(3, TWO + "begin ^d; " + DEAL);
        Check.wrong(3, TWO + DEAL + "crash ^d;");
        Check.wrong(3, TWO + DEAL + "wake ^d;");
        Check.wrong(3, TWO + DEAL + "wake ^c;");
        Check.wrong(3, TWO + DEAL + "wake a when awake ^d;");
        Check.wrong(3, TWO + DEAL + "wake a when honey of ^d = 1;");
        Check.wrong(3, TWO + DEAL + "wake a when waits of ^a = 1;");
        Check.wrong(3, TWO + DEAL + "wake a when waits of ^x = 1 and honey of x = 1;");
    }

    private static void tooMany() {
        Check.hive(eightDrones() + sixDeals() + Check.times(16, "wake a;"));
        Check.wrong(4, eightDrones() + "drone ^z honey 99;");
        Check.wrong(4, eightDrones() + sixDeals() + "deal ^z moves nobody gives 1;");
        Check.hive(eightDrones() + "deal z " + "moves a gives 1, b gives 1, c gives 1, d gives 1, e gives 1, f gives 1;");
        String six = eightDrones() + "deal z moves a gives 1, b gives 1, c gives 1, d gives 1, e gives 1, f gives 1, ";
        Check.wrong(4, six + "^g gives 99;");
        Check.wrong(4, six + "^a gives 1;");
        Check.wrong(3, six + "^y gives 1;");
        Check.wrong(4, "drone a honey 1;" + Check.times(16, "wake a;") + "^wake nobody;");
        Check.wrong(4, "drone a honey 1;" + Check.times(16, "wake queen;") + "^begin a;");
    }

    private static void numbersOutOfRange() {
        Check.wrong(5, "drone a honey ^61;");
        Check.wrong(5, "drone a honey ^999999;");
        Check.wrong(5, TWO + "deal d moves a gives ^0;");
        Check.wrong(5, TWO + "deal d moves a gets ^21;");
        Check.wrong(5, TWO + "deal d moves a gets 20, b gives ^0000;");
        Check.wrong(5, TWO + "deal d moves a gives 1, ^a gets 1;");
        Check.wrong(5, TWO + "deal d moves a gives 1, b gives 1, ^a gets 99;");
        Check.hive(TWO + DEAL + "deal e moves a gives 1, b gets 20;");
        Check.hive("wake queen when 999999 > 61;");
    }

    private static void theFirstErrorIsTold() {
        Check.wrong(1, "drone a honey 99; drone a honey 1; begin ^;");
        Check.wrong(1, "drone a honey 99^");
        Check.wrong(5, "drone a honey ^99; drone a honey 1; begin x;");
        Check.wrong(3, "begin ^x; drone a honey 99;");
        Check.wrong(2, "drone a honey 1; drone ^a honey 99;");
        Check.wrong(3, TWO + "deal d moves a gives 1, ^x gives 99;");
        Check.wrong(5, TWO + "deal d moves a gives ^99, x gives 1;");
        Check.wrong(5, TWO + "deal d moves a gives ^99; wake a when honey of x = 1;");
    }

    private static String eightDrones() {
        StringBuilder text = new StringBuilder();
        for (char name = 'a'; name <= 'h'; name++) {
            text.append("drone ").append(name).append(" honey 5;");
        }
        return text.toString();
    }

    private static String sixDeals() {
        StringBuilder text = new StringBuilder();
        for (char name = 'n'; name <= 's'; name++) {
            text.append("deal ").append(name).append(" moves a gives 5;");
        }
        return text.toString();
    }
}
