/** The sentences of "Terms", section 1 and promises 1 to 5 that name a boundary: each on both sides of it. */
public final class TapeBoundsTest {

    private static final String WAKE = "wake queen when ";
    private static final String TWO = "drone a honey 5; drone b honey 6; ";
    private static final String DEAL = "deal d moves a gives 1; ";
    private static final String[] KEYWORDS = ("drone honey deal moves gives gets begin crash wake queen when day done"
        + " blocked waits of awake not and or min max").split(" ");

    public static void main(String[] args) {
        sumsWrapAround();
        differencesWrapAround();
        productsWrapAround();
        quotientsAreCutTowards0();
        quotientsWith0AndTheSmallest();
        positionsAreCountedFrom0();
        everyByteOfAFeedHasItsPlace();
        tapeHoldsAtMost2000();
        tapeOf2000IsReadToItsEnd();
        trimTakes0ToTheLength();
        whatIsTrimmedIsNotRead();
        teachEmptiesTheTape();
        errorStaysTillTheNextTeach();
        gapsCanStandAnywhere();
        gapsHaveToStandBetweenWords();
        everyByteBetweenTokens();
        everyByteInAWord();
        everyByteAheadOfAWord();
        everyByteInANumber();
        longestTokenIsRead();
        wordsHaveAtMost10();
        numbersHave1To6();
        keywordsAreNoNames();
        namesOfTwoSignsDiffer();
        rowsCanBeEmptyOrLong();
        testsStandBehindOrdersAlone();
        depthOfEachOpening();
        depthOfMixedOpenings();
        depthEndsWithWhatItTurns();
        tokensAreAtMost400();
        error1GoesAheadOfAll();
        error2ForEachName();
        error3ForEachPlace();
        error4ForEachCount();
        error5ForEachNumber();
        error5ForADroneTwice();
        smallestErrorOfAToken();
        errorsFromLeftToRight();
        numbersAreInTheOrderTold();
        Check.finish();
    }

    // ---- "sums, differences and products of the language wrap around in 32 bits"

    private static void sumsWrapAround() {
        String almost = "65536 * 32767 + 65535";
        holds(almost + " > 0");
        holds(almost + " + 0 = 65536 * 32767 + 65535");
        holds(almost + " + 1 < 0");
        holds(almost + " + 1 = 65536 * 32768");
        holds(almost + " + 2 = 65536 * 32768 + 1");
        holds("65536 * 32768 + 65536 * 32768 = 0");
    }

    private static void differencesWrapAround() {
        holds("65536 * 32768 - 0 < 0");
        holds("65536 * 32768 - 1 > 0");
        holds("65536 * 32768 - 1 = 65536 * 32767 + 65535");
        holds("0 - 65536 * 32768 < 0");
        holds("-1 - 65536 * 32768 > 0");
        holds("-(65536 * 32768) = 65536 * 32768");
        holds("-(65536 * 32768 + 1) = 65536 * 32767 + 65535");
        holds("--(65536 * 32768) = 65536 * 32768");
    }

    private static void productsWrapAround() {
        holds("46340 * 46340 > 0");
        holds("46341 * 46341 < 0");
        holds("65536 * 32767 > 0");
        holds("65536 * 32768 < 0");
        holds("65536 * 65536 = 0");
        holds("65537 * 65537 = 131073");
        holds("999999 * 999999 = -729 * 1000 * 1000 - 379967");
        holds("65536 * 32768 * -1 = 65536 * 32768");
    }

    // ---- "/ is cut towards 0, gives 0 with 0 on the right side, and -2147483648 / -1 gives -2147483648"

    private static void quotientsAreCutTowards0() {
        holds("5 / 3 = 1 and 6 / 3 = 2 and 7 / 3 = 2");
        holds("-5 / 3 = -1 and -6 / 3 = -2 and -7 / 3 = -2");
        holds("5 / -3 = -1 and 6 / -3 = -2 and 7 / -3 = -2");
        holds("-5 / -3 = 1 and -6 / -3 = 2 and -7 / -3 = 2");
        holds("2 / 3 = 0 and -2 / 3 = 0 and 2 / -3 = 0 and -2 / -3 = 0");
        holds("1 / 1 = 1 and -1 / 1 = -1 and 1 / -1 = -1 and -1 / -1 = 1 and 0 / -1 = 0 and 0 / 5 = 0");
    }

    private static void quotientsWith0AndTheSmallest() {
        holds("7 / 0 = 0 and -7 / 0 = 0 and 0 / 0 = 0");
        holds("7 / 1 = 7 and 7 / -1 = -7");
        holds("7 / (3 - 3) = 0 and 7 / day = 0 and 7 / -0 = 0");
        holds("65536 * 32768 / -1 = 65536 * 32768");
        holds("65536 * 32768 / 1 = 65536 * 32768");
        holds("65536 * 32768 / 0 = 0");
        holds("65536 * 32768 / -2 = 65536 * 16384");
        holds("(65536 * 32768 + 1) / -1 = 65536 * 32767 + 65535");
        holds("(65536 * 32767 + 65535) / -1 = 65536 * 32768 + 1");
        holds("1 / (65536 * 32768) = 0 and 65536 * 32768 / (65536 * 32768) = 1");
    }

    // ---- "Positions of the tape are counted from 0, in bytes."

    private static void positionsAreCountedFrom0() {
        Check.wrong(1, "^?");
        Check.wrong(1, " ^?");
        Check.wrong(1, "\n\n^?");
        Check.wrong(3, "wake ^x;");
        Check.wrong(1, "drone a honey 1; ^\u00ff");
        Check.wrong(1, "^\u00ff\u00ff");
    }

    // ---- "a row of at most 2000 bytes", and promises 2 to 5

    private static void everyByteOfAFeedHasItsPlace() {
        for (int place = 0; place < 20; place++) {
            for (int b : new int[] {0, 1, 9, 11, 127, 128, 200, 255}) {
                int[] words = {0x20202020, 0x20202020, 0x20202020, 0x20202020, 0x20202020};
                int shift = 24 - place % 4 * 8;
                words[place / 4] = words[place / 4] & ~(255 << shift) | b << shift;
                HoneyAccord hive = new HoneyAccord();
                hive.feed(0x20202020, 0x0a0a0a0a, 0x20202020, 0x20202020, 0x20202020);
                Check.same("second feed", 40, hive.feed(words[0], words[1], words[2], words[3], words[4]));
                Check.same("byte " + b + " in place " + place, 1, hive.teach());
                Check.same("its position", 20 + place, hive.errorAt());
            }
        }
    }

    private static void tapeHoldsAtMost2000() {
        for (int length : new int[] {1960, 1979, 1980, 1981, 1999, 2000}) {
            HoneyAccord hive = tapeOf(length);
            if (length <= 1980) {
                Check.same("feed on " + length, length + 20, hive.feed(0, 0, 0, 0, 0));
            } else {
                Check.cannot("feed on " + length, () -> hive.feed(0, 0, 0, 0, 0));
                Check.notAllowed("no byte more behind " + length, () -> hive.trim(length + 1));
                Check.same("no byte less behind " + length, length, hive.trim(length));
                Check.same("the tape of " + length + " is blank as it was", 0, hive.teach());
            }
        }
    }

    private static void tapeOf2000IsReadToItsEnd() {
        String told = "drone a honey 7;";
        String blanks = Check.times(2000 - told.length(), " ");
        Check.same("honey told in the last bytes", 7, Check.hive(blanks + told).honeyOf(0));
        Check.hive(told + blanks);
        Check.wrong(1, blanks + "drone a honey 77^");
        Check.wrong(1, blanks + "drone a honey 7 ^");
        Check.wrong(1, blanks + "drone a honey 7^?");
        Check.wrong(1, blanks + "drone a honey ^a;");
        Check.wrong(5, blanks.substring(1) + "drone a honey ^61;");
    }

    private static void trimTakes0ToTheLength() {
        HoneyAccord hive = tapeOf(40);
        Check.notAllowed("trim(41) of 40", () -> hive.trim(41));
        Check.notAllowed("trim(-1) of 40", () -> hive.trim(-1));
        Check.same("trim(40) of 40", 40, hive.trim(40));
        Check.same("trim(39) of 40", 39, hive.trim(39));
        Check.notAllowed("trim(40) of 39", () -> hive.trim(40));
        Check.same("trim(1)", 1, hive.trim(1));
        Check.same("trim(0) of 1", 0, hive.trim(0));
        Check.notAllowed("trim(1) of 0", () -> hive.trim(1));
        Check.notAllowed("trim(-1) of 0", () -> hive.trim(-1));
        Check.same("trim(0) of 0", 0, hive.trim(0));
        Check.notAllowed("trim(1) of a new object", () -> new HoneyAccord().trim(1));
        HoneyAccord full = tapeOf(2000);
        Check.notAllowed("trim(2001) of 2000", () -> full.trim(2001));
        Check.same("trim(2000) of 2000", 2000, full.trim(2000));
    }

    private static void whatIsTrimmedIsNotRead() {
        teachesTrimmed("drone a honey 1;?", 16, 0, -1);
        teachesTrimmed("drone a honey 1;?", 17, 1, 16);
        teachesTrimmed("drone a honey 123;", 16, 1, 16);
        teachesTrimmed("wake queen when 1 <= 1;", 19, 1, 19);
        teachesTrimmed("wake queen when 1 <= 1;", 20, 1, 20);
        teachesTrimmed("drone abcdefghijk", 16, 1, 16);
        teachesTrimmed("drone abcdefghijk", 17, 1, 6);
        HoneyAccord hive = new HoneyAccord();
        Check.feed(hive, "drone a honey 12345;");
        hive.trim(15);
        Check.feed(hive, "9; drone b honey 3; ");
        Check.same("teach of what was fed behind a trim", 0, hive.teach());
        Check.same("honey 1 and 9", 19, hive.honeyOf(0));
        Check.same("honey of b", 3, hive.honeyOf(1));
    }

    private static void teachesTrimmed(String text, int length, int error, int at) {
        HoneyAccord hive = new HoneyAccord();
        Check.feed(hive, text);
        hive.trim(length);
        Check.same("teach of " + length + " of " + text, error, hive.teach());
        Check.same("errorAt of " + length + " of " + text, at, hive.errorAt());
    }

    private static void teachEmptiesTheTape() {
        for (String text : new String[] {"drone a honey 1;", "drone a honey 61;", "drone a"}) {
            HoneyAccord hive = new HoneyAccord();
            Check.feed(hive, text);
            hive.teach();
            Check.notAllowed("no byte is left of " + text, () -> hive.trim(1));
            Check.same("teach of the empty tape behind " + text, 0, hive.teach());
            Check.same("no drones of the empty tape", 0, hive.drones());
            Check.same("feed begins at 0", 20, hive.feed(0, 0, 0, 0, 0));
        }
    }

    private static void errorStaysTillTheNextTeach() {
        String[] texts = {"?", "drone a honey 1; drone a honey 1;", "wake x;", "drone a honey 1;" + Check.times(17, "wake a;"),
            "drone a honey 61;"};
        int[] positions = {0, 23, 5, 128, 14};
        HoneyAccord hive = new HoneyAccord();
        Check.same("errorAt of a new object", -1, hive.errorAt());
        for (int error = 1; error <= 5; error++) {
            Check.feed(hive, texts[error - 1]);
            Check.same("error " + error, error, hive.teach());
            Check.same("position of error " + error, positions[error - 1], hive.errorAt());
            hive.feed(0x20202020, 0x20202020, 0x20202020, 0x20202020, 0x20202020);
            hive.trim(0);
            hive.passDays(1);
            Check.same("it stays", positions[error - 1], hive.errorAt());
            Check.same("a teach without error", 0, hive.teach());
            Check.same("ends it", -1, hive.errorAt());
        }
    }

    // ---- "Blanks (32) and line ends (10) can stand between tokens ... The longest possible token is always read."

    private static void gapsCanStandAnywhere() {
        Check.hive("");
        Check.hive(" ");
        Check.hive("\n");
        Check.hive(" \n \n");
        Check.hive("\n drone\n\na  honey \n1\n;\n drone b honey 2 ; ");
        Check.hive("drone a honey 1;drone b honey 2;deal d moves a gives 1,b gets 1;wake a when(1)<=2and[1=1]or not awake a;");
        Check.hive("drone a honey 1;wake a when - ( 1 ) <= min ( 2 , 3 ) ;");
    }

    private static void gapsHaveToStandBetweenWords() {
        Check.hive("drone a honey 1;");
        Check.wrong(1, "^dronea honey 1;");
        Check.wrong(1, "drone ahoney ^1;");
        Check.wrong(1, "drone a ^honey1;");
        Check.wrong(1, TWO + "deal d moves a ^gives1;");
        Check.wrong(1, TWO + "wake awhen ^1 = 1;");
        Check.wrong(1, TWO + "wake a when ^awakea;");
        Check.wrong(1, TWO + "wake a when ^not1 = 1;");
        Check.wrong(1, "drone a honey 1 ^2;");
        Check.wrong(1, WAKE + "1 < ^= 1;");
        Check.hive(WAKE + "1 <= 1;");
        Check.hive(WAKE + "1 = 1and 2 = 2or 3 = 3;");
        Check.wrong(1, "drone a honey 1^drone b honey 1;");
    }

    /** Only blanks and line ends may stand between a name and the honey behind it. */
    private static void everyByteBetweenTokens() {
        for (int b = 0; b < 256; b++) {
            boolean fits = isSignOfWords(b) || isGap(b);
            teaches("drone a" + (char) b + " honey 1;", fits ? 0 : 1, fits ? -1 : 7);
            teaches("drone a honey 1;" + (char) b, isGap(b) ? 0 : 1, isGap(b) ? -1 : 16);
            teaches((char) b + "drone a honey 1;", isGap(b) ? 0 : 1, isGap(b) ? -1 : 0);
            boolean reckons = "+-*/".indexOf(b) >= 0;
            teaches(WAKE + "1" + (char) b + " 1 = 1;", reckons ? 0 : 1, reckons ? -1 : positionInTest(b));
        }
    }

    /** Where "1? 1 = 1" breaks: behind a gap, a digit or a comparison at what follows, else at the byte itself. */
    private static int positionInTest(int b) {
        if ("<>=".indexOf(b) >= 0) {
            return 21;
        }
        return isGap(b) || isDigit(b) ? 19 : 17;
    }

    private static void everyByteInAWord() {
        for (int b = 0; b < 256; b++) {
            boolean fits = isSignOfWords(b);
            teaches("drone a" + (char) b + "a honey 1;", fits ? 0 : 1, fits ? -1 : isGap(b) ? 8 : 7);
        }
    }

    private static void everyByteAheadOfAWord() {
        for (int b = 0; b < 256; b++) {
            boolean fits = isSmallLetter(b);
            teaches("drone " + (char) b + "7x honey 1;", fits ? 0 : 1, fits ? -1 : isGap(b) ? 7 : 6);
        }
    }

    private static void everyByteInANumber() {
        for (int b = 0; b < 256; b++) {
            int error = !isDigit(b) ? 1 : b > '5' ? 5 : 0;
            int behindByte = isGap(b) || b == ';' ? 16 : 15;
            teaches("drone a honey 0" + (char) b + "1;", error, error == 0 ? -1 : error == 5 ? 14 : behindByte);
        }
    }

    private static boolean isGap(int b) {
        return b == 32 || b == 10;
    }

    private static boolean isDigit(int b) {
        return b >= '0' && b <= '9';
    }

    private static boolean isSmallLetter(int b) {
        return b >= 'a' && b <= 'z';
    }

    private static boolean isSignOfWords(int b) {
        return isSmallLetter(b) || isDigit(b);
    }

    private static void teaches(String text, int error, int at) {
        HoneyAccord hive = new HoneyAccord();
        Check.feed(hive, text);
        Check.same("teach of " + text, error, hive.teach());
        Check.same("errorAt of " + text, at, hive.errorAt());
    }

    private static void longestTokenIsRead() {
        holds("1<2 and 1<=1 and 1>=1 and 2>1 and 1=1");
        fails("2<=1 or 1>=2");
        Check.wrong(1, WAKE + "1 <^> 1;");
        Check.wrong(1, WAKE + "1 =^= 1;");
        Check.wrong(1, WAKE + "1 <=^= 1;");
        Check.hive(WAKE + "1 <-1 and 1 >-1;");
        Check.hive("drone drone1 honey 1; drone dronehoney honey 1;");
        Check.hive("drone a honey 1; wake a when day=1and day=2;");
        Check.wrong(1, "drone a honey ^1234567;");
        Check.wrong(1, "drone ^abcdefghij1 honey 1;");
    }

    // ---- "A word: ... at most 10 bytes. A number: 1 to 6 digits."

    private static void wordsHaveAtMost10() {
        for (String word : new String[] {"a", "z", "abcdefghij", "zzzzzzzzzz", "a123456789", "abcdefghi0"}) {
            Check.hive("drone " + word + " honey 1;");
            Check.hive("drone b honey 1; deal " + word + " moves b gives 1; begin " + word + ";");
        }
        for (String word : new String[] {"abcdefghijk", "zzzzzzzzzzz", "a1234567890", "dronedrone1", "aaaaaaaaaaaaaaaaaaaaaaaaa"}) {
            Check.wrong(1, "drone ^" + word + " honey 1;");
            Check.wrong(1, "^" + word);
            Check.wrong(1, "drone a honey 1; wake ^" + word + ";");
            Check.wrong(1, "wake queen when awake ^" + word + ";");
        }
        Check.hive("drone abcdefghij honey 1; drone abcdefghik honey 1; drone bbcdefghij honey 1; drone abcdefghi honey 1;");
        Check.wrong(2, "drone abcdefghij honey 1; drone ^abcdefghij honey 1;");
    }

    private static void numbersHave1To6() {
        Check.same("000007", 7, Check.hive("drone a honey 000007;").honeyOf(0));
        Check.same("0", 0, Check.hive("drone a honey 0;").honeyOf(0));
        Check.wrong(1, "drone a honey ^0000007;");
        Check.wrong(1, "drone a honey ^0000000;");
        Check.wrong(1, "drone a honey ^;");
        Check.wrong(5, "drone a honey ^999999;");
        Check.wrong(1, "drone a honey ^1000000;");
        Check.wrong(1, "drone a honey ^99999999999999999999999999;");
        holds("999999 = 1000 * 1000 - 1");
        holds("000000 = 0 and 000001 = 1");
        Check.wrong(1, WAKE + "^1000000 = 1;");
        Check.wrong(1, WAKE + "1 = ^0000001;");
        Check.hive(TWO + "deal d moves a gives 000020;");
        Check.wrong(1, TWO + "deal d moves a gives ^0000020;");
    }

    private static void keywordsAreNoNames() {
        for (String word : KEYWORDS) {
            Check.wrong(1, "drone ^" + word + " honey 1;");
            Check.wrong(1, TWO + "deal ^" + word + " moves a gives 1;");
            Check.wrong(1, TWO + "deal d moves ^" + word + " gives 1;");
            Check.wrong(1, TWO + DEAL + "begin ^" + word + ";");
            Check.hive("drone " + word + "1 honey 1; crash " + word + "1;");
            Check.hive("drone x" + word + " honey 1; crash x" + word + ";");
            String shorter = word.substring(0, word.length() - 1);
            Check.hive("drone " + shorter + " honey 1; wake " + shorter + " when awake " + shorter + ";");
        }
    }

    /** Fourteen names at a time, from far and near, as no two of them may be taken for one. */
    private static void namesOfTwoSignsDiffer() {
        for (int step : new int[] {1, 5, 26, 31, 37, 101, 185, 211, 349}) {
            for (int first = 0; first < 936; first += 13) {
                StringBuilder text = new StringBuilder();
                for (int i = 0; i < 14; i++) {
                    text.append(i < 8 ? "drone " : "deal ").append(twoSigns(first + i * step));
                    text.append(i < 8 ? " honey 1; " : " moves " + twoSigns(first) + " gives 1; ");
                }
                Check.hive(text.toString());
                Check.wrong(2, text + "drone ^" + twoSigns(first + first % 14 * step) + " honey 1;");
            }
        }
        Check.hive("drone az honey 1; drone a0 honey 1; drone a9 honey 1; drone b honey 1; drone ar honey 1; drone f0 honey 1;");
        Check.hive("drone a honey 1; drone aa honey 1; drone aaa honey 1; drone aaaaaaaaaa honey 1; drone aaaaaaaaa honey 1;");
    }

    /** A letter and a letter or digit behind it; the keywords of two signs are told apart by a third. */
    private static String twoSigns(int number) {
        String signs = "abcdefghijklmnopqrstuvwxyz0123456789";
        int place = number % 936;
        String name = "" + signs.charAt(place / 36) + signs.charAt(place % 36);
        return name.equals("of") || name.equals("or") ? name + "x" : name;
    }

    // ---- "{ x } any number of times, also none"

    private static void rowsCanBeEmptyOrLong() {
        Check.same("no line", 0, Check.hive("").drones());
        Check.same("one part", 1, Check.hive(TWO + DEAL).partsOf(0));
        Check.same("two parts", 2, Check.hive(TWO + "deal d moves a gives 1, b gets 1;").partsOf(0));
        Check.wrong(1, TWO + "deal d moves^;");
        Check.wrong(1, TWO + "deal d moves a gives 1,^;");
        Check.wrong(1, TWO + "deal d moves a gives 1, b gets 1^b gets 1;");
        holds("1 = 1" + Check.times(50, " or 1 = 2"));
        fails("1 = 2" + Check.times(50, " and 1 = 1"));
        holds("1" + Check.times(150, "+ 1") + " = 151");
        holds("2" + Check.times(30, "* 2") + " < 0");
        Check.wrong(1, "drone a honey 1;^;");
        Check.wrong(1, "drone a honey 1^");
    }

    private static void testsStandBehindOrdersAlone() {
        Check.wrong(1, "drone a honey 1 ^when 1 = 1;");
        Check.wrong(1, TWO + "deal d moves a gives 1 ^when 1 = 1;");
        Check.hive(TWO + DEAL + "begin d when 1 = 1; crash a when 1 = 1; wake a when 1 = 1; crash queen when 1 = 1;");
        Check.hive(TWO + DEAL + "begin d; crash a; wake a; crash queen; wake queen;");
        Check.wrong(1, TWO + DEAL + "begin ^queen;");
        Check.wrong(1, TWO + "wake a when^;");
        Check.wrong(1, TWO + "wake a when 1 = 1 ^when 1 = 1;");
        Check.wrong(1, TWO + "wake a when (1 ^= 1);");
        Check.wrong(1, TWO + "wake a when 1 = 1 ^= 1;");
    }

    // ---- "Depth ... may be at most 8."

    private static void depthOfEachOpening() {
        String[] opens = {"(", "-", "min(", "max(", "min(1, ", "max(1, "};
        String[] closes = {")", "", ", 1)", ", 1)", ")", ")"};
        String[] broken = {"^(1)", "^-1", "min^(1, 1)", "max^(1, 1)", "min^(1, 1)", "max^(1, 1)"};
        for (int i = 0; i < opens.length; i++) {
            String open = Check.times(8, opens[i]);
            String close = Check.times(8, closes[i]);
            Check.hive(WAKE + open + "1" + close + " = 1;");
            Check.hive(WAKE + "1 = " + open + "1" + close + ";");
            Check.wrong(1, WAKE + open + broken[i] + close + " = 1;");
            Check.wrong(1, WAKE + "1 = " + open + broken[i] + close + ";");
            Check.wrong(1, WAKE + Check.times(7, opens[i]) + "-" + broken[i] + Check.times(7, closes[i]) + " = 1;");
        }
        String[] single = {"not ", "["};
        String[] end = {"", "]"};
        for (int i = 0; i < single.length; i++) {
            String open = Check.times(8, single[i]);
            String close = Check.times(8, end[i]);
            Check.hive(WAKE + open + "1 = 1" + close + ";");
            Check.hive(WAKE + open + "awake queen" + close + ";");
            Check.wrong(1, WAKE + open + "^" + single[i] + "1 = 1" + close + end[i] + ";");
            Check.wrong(1, WAKE + open + "1 = ^-1" + close + ";");
            Check.wrong(1, WAKE + open + "^(1) = 1" + close + ";");
            Check.wrong(1, WAKE + open + "min^(1, 1) = 1" + close + ";");
        }
    }

    /** Some openings of tests ahead of some of sums, eight and nine together. */
    private static void depthOfMixedOpenings() {
        for (int tests = 0; tests <= 8; tests++) {
            StringBuilder open = new StringBuilder(WAKE);
            StringBuilder endOfTest = new StringBuilder();
            for (int i = 0; i < tests; i++) {
                open.append(i % 2 == 0 ? "[" : "not ");
                endOfTest.append(i % 2 == 0 ? "]" : "");
            }
            StringBuilder endOfSum = new StringBuilder();
            for (int i = tests; i < 8; i++) {
                open.append(i % 3 == 0 ? "-" : i % 3 == 1 ? "(" : "max(3, ");
                endOfSum.append(i % 3 == 0 ? "" : ")");
            }
            Check.hive(open + "1" + endOfSum + " = 1" + endOfTest + ";");
            Check.wrong(1, open + "^(1)" + endOfSum + " = 1" + endOfTest + ";");
            Check.wrong(1, open + "^-1" + endOfSum + " = 1" + endOfTest + ";");
        }
    }

    private static void depthEndsWithWhatItTurns() {
        String eight = Check.times(8, "(") + "1" + Check.times(8, ")");
        Check.hive(WAKE + eight + " + " + eight + " * " + eight + " = " + eight + " and " + eight + " < " + eight + ";");
        Check.hive(WAKE + eight + " = 1; " + WAKE + eight + " = 1;");
        String seven = Check.times(7, "(");
        String back = Check.times(7, ")");
        Check.hive(WAKE + seven + "-1 * (1) + -1 - (1)" + back + " = 1;");
        Check.wrong(1, WAKE + seven + "-^(1) * 1" + back + " = 1;");
        Check.wrong(1, WAKE + seven + "1 * -^-1" + back + " = 1;");
        Check.hive(WAKE + seven + "1 - 1 - 1 - -1" + back + " = 1;");
        Check.hive(WAKE + seven + "min(1, 1) + (1) + max(1, 1)" + back + " = 1;");
        Check.wrong(1, WAKE + seven + "min(1, ^-1)" + back + " = 1;");
        Check.wrong(1, WAKE + seven + "(1 + ^(1))" + back + " = 1;");
        Check.hive(WAKE + Check.times(7, "[") + "not 1 = 1 and [1 = 1] or (1) = -1" + Check.times(7, "]") + ";");
        Check.wrong(1, WAKE + Check.times(7, "[") + "not ^[1 = 1] and 1 = 1" + Check.times(7, "]") + ";");
        Check.wrong(1, WAKE + Check.times(7, "[") + "not 1 = ^(1)" + Check.times(7, "]") + ";");
        Check.wrong(1, WAKE + Check.times(7, "[") + "[1 = 1 and 1 = ^-1]" + Check.times(7, "]") + ";");
        Check.hive(WAKE + "not not not not not not not not 1 = 1 or not 1 = 1;");
        holds(Check.times(8, "not ") + "1 = 1");
        fails(Check.times(7, "not ") + "1 = 1");
        holds(Check.times(8, "-") + "1 = 1");
        holds(Check.times(7, "-") + "1 = -1");
    }

    // ---- "the token that would be the 401st (the end of the tape not counted)"

    private static void tokensAreAtMost400() {
        String sum = WAKE + "1" + Check.times(196, "+1");
        String of399 = sum + " = 1;";
        String of400 = sum + " = - 1;";
        Check.hive(of399);
        Check.hive(of400);
        Check.hive("\n" + of400 + " \n ");
        for (String more : new String[] {";", "wake queen;", "drone a honey 1;", "7", "?", "1234567", "abcdefghijk", "("}) {
            Check.wrong(1, of400 + "^" + more);
            Check.wrong(1, of400 + "\n ^" + more);
        }
        Check.wrong(1, of399 + "wake ^queen;");
        Check.wrong(1, sum + " = - -1^;");
        Check.wrong(1, sum + " = - -1^");
        Check.wrong(1, sum + " = 1 +1^;");
        Check.wrong(1, sum + "+1 =1^;");
        Check.wrong(1, sum + "+1+1 ^= 1;");
        Check.wrong(1, "drone a honey 99; drone a honey 1; " + WAKE + "1" + Check.times(193, "+1") + "^+1 = 1;");
        Check.wrong(5, "drone a honey ^99; drone a honey 1; " + WAKE + "1" + Check.times(191, "+1") + " = 1;");
    }

    // ---- "Only if there is no error 1 ... the first error is told, at its token"

    private static void error1GoesAheadOfAll() {
        String[] others = {"drone a honey 1; drone a honey 1;", "wake x;", "drone a honey 61;", Check.times(17, "wake queen;")};
        int[] errors = {2, 3, 5, 4};
        for (int i = 0; i < others.length; i++) {
            HoneyAccord hive = new HoneyAccord();
            Check.feed(hive, others[i]);
            Check.same("teach of " + others[i], errors[i], hive.teach());
            Check.wrong(1, others[i] + "^?");
            Check.wrong(1, others[i] + " wake queen^");
            Check.wrong(1, others[i] + " ^1234567");
            Check.wrong(1, others[i] + " wake ^abcdefghijk;");
            Check.wrong(1, others[i] + WAKE + Check.times(8, "-") + "^-1 = 1;");
        }
    }

    // ---- "Error 2: the name behind drone or deal is that of a drone or deal told ahead."

    private static void error2ForEachName() {
        Check.hive("drone a honey 1; drone b honey 1; deal c moves a gives 1; deal d moves a gives 1; drone e honey 1;");
        String told = "drone a honey 1; drone b honey 1; deal c moves a gives 1; deal d moves b gives 1; ";
        for (String name : new String[] {"a", "b", "c", "d"}) {
            Check.wrong(2, told + "drone ^" + name + " honey 1;");
            Check.wrong(2, told + "deal ^" + name + " moves a gives 1;");
            Check.hive(told + "drone " + name + "1 honey 1;");
            Check.hive(told + "deal " + name + name + " moves a gives 1;");
        }
    }

    // ---- "Error 3: another name is none of what it has to be, told ahead"

    private static void error3ForEachPlace() {
        String[] forDrones = {"crash #;", "wake #;", "wake queen when awake #;", "wake queen when honey of # = 1;",
            "deal x moves # gives 1;", "deal x moves b gives 1, # gets 1;", "wake queen when not [-honey of # = 1];"};
        for (String line : forDrones) {
            Check.hive(TWO + DEAL + line.replace("#", "a"));
            for (String name : new String[] {"d", "q", "late"}) {
                Check.wrong(3, TWO + DEAL + line.replace("#", "^" + name) + " drone late honey 1;");
            }
        }
        String[] forDeals = {"begin #;", "wake queen when waits of # = 1;", "begin d when 1 = 2 or 1 + (waits of #) = 1;"};
        for (String line : forDeals) {
            Check.hive(TWO + DEAL + line.replace("#", "d"));
            for (String name : new String[] {"a", "q", "late"}) {
                Check.wrong(3, TWO + DEAL + line.replace("#", "^" + name) + " deal late moves a gives 1;");
            }
        }
        Check.wrong(3, TWO + "deal d moves ^d gives 1;");
        Check.hive(TWO + "crash queen; wake queen when awake queen;");
    }

    // ---- "Error 4: the name of the 9th drone or the 7th deal, of the drone of the 7th part of a deal, or ..."

    private static void error4ForEachCount() {
        Check.same("8 drones", 8, Check.hive(drones(8)).drones());
        Check.wrong(4, drones(8) + "drone ^i honey 1;");
        Check.wrong(4, drones(8) + "drone ^i honey 1; drone j honey 1;");
        Check.same("6 deals", 6, Check.hive(drones(1) + deals(6)).deals());
        Check.wrong(4, drones(1) + deals(6) + "deal ^z moves a gives 1;");
        Check.same("6 parts", 6, Check.hive(drones(8) + "deal p moves " + parts(6) + ";").partsOf(0));
        Check.wrong(4, drones(8) + "deal p moves " + parts(6) + ", ^g gets 1;");
        Check.wrong(4, drones(8) + "deal p moves " + parts(6) + ", ^g gets 1, h gets 1;");
        Check.same("6 parts of two deals", 6,
            Check.hive(drones(8) + "deal p moves " + parts(6) + "; deal q moves " + parts(6) + ";").partsOf(1));
        String[] orders = {"begin n;", "crash a;", "wake a;", "crash queen;", "wake queen when 1 = 1;"};
        for (String order : orders) {
            Check.hive(drones(1) + deals(1) + Check.times(15, "wake a;") + order);
            Check.wrong(4, drones(1) + deals(1) + Check.times(16, "wake a;") + "^" + order);
            Check.wrong(4, drones(1) + deals(1) + Check.times(16, order) + "^wake a;");
        }
        Check.hive(Check.times(8, "wake queen;") + drones(8) + deals(6) + Check.times(8, "wake queen;"));
    }

    // ---- "Error 5: the number behind honey is greater than 60, that of a part is not 1 to 20, or ..."

    private static void error5ForEachNumber() {
        Check.same("0", 0, Check.hive("drone a honey 0;").honeyOf(0));
        Check.same("59", 59, Check.hive("drone a honey 59;").honeyOf(0));
        Check.same("60", 60, Check.hive("drone a honey 60;").honeyOf(0));
        Check.wrong(5, "drone a honey ^61;");
        Check.wrong(5, "drone a honey 60; drone b honey ^000061;");
        for (String verb : new String[] {"gives ", "gets "}) {
            int sign = verb.equals("gets ") ? 1 : -1;
            Check.wrong(5, TWO + "deal d moves a " + verb + "^0;");
            Check.same(verb + 1, sign, Check.hive(TWO + "deal d moves a " + verb + "1;").changeIn(0, 0));
            Check.same(verb + 20, sign * 20, Check.hive(TWO + "deal d moves a " + verb + "20;").changeIn(0, 0));
            Check.wrong(5, TWO + "deal d moves a " + verb + "^21;");
            Check.wrong(5, TWO + "deal d moves a gives 1, b " + verb + "^0;");
            Check.wrong(5, TWO + "deal d moves a gives 1, b " + verb + "^21;");
            Check.wrong(5, TWO + "deal d moves a " + verb + "^999999;");
        }
        holds("0 = 0 and 61 = 61 and 21 > 20");
    }

    private static void error5ForADroneTwice() {
        String moves = drones(8) + "deal p moves ";
        Check.wrong(5, moves + "a gives 1, ^a gives 1;");
        Check.wrong(5, moves + "a gives 1, ^a gets 2;");
        Check.wrong(5, moves + "a gives 1, b gives 1, ^a gets 2;");
        Check.wrong(5, moves + "a gives 1, b gives 1, ^b gets 2;");
        for (char name = 'a'; name <= 'e'; name++) {
            Check.wrong(5, moves + parts(5) + ", ^" + name + " gives 1;");
        }
        Check.hive(moves + parts(5) + ", f gives 1;");
        Check.hive(moves + parts(6) + "; deal q moves f gets 1, a gets 1; deal r moves a gets 1;");
    }

    // ---- "of errors at one token the one with the smallest number"

    private static void smallestErrorOfAToken() {
        Check.wrong(2, drones(8) + "drone ^h honey 1;");
        Check.wrong(4, drones(8) + "drone ^hh honey 1;");
        Check.wrong(2, drones(8) + deals(6) + "deal ^a moves a gives 1;");
        Check.wrong(2, drones(8) + deals(6) + "deal ^n moves a gives 1;");
        Check.wrong(4, drones(8) + deals(6) + "deal ^nn moves a gives 1;");
        Check.wrong(3, drones(8) + "deal p moves " + parts(6) + ", ^x gets 1;");
        Check.wrong(3, drones(8) + "deal p moves " + parts(6) + ", ^p gets 1;");
        Check.wrong(4, drones(8) + "deal p moves " + parts(6) + ", ^f gets 1;");
        Check.wrong(4, drones(8) + "deal p moves " + parts(6) + ", ^a gets 1;");
    }

    private static void errorsFromLeftToRight() {
        Check.wrong(5, "drone a honey ^61; drone a honey 1; wake x;");
        Check.wrong(2, "drone a honey 1; drone ^a honey 61; wake x;");
        Check.wrong(3, "wake ^x; drone a honey 61;");
        Check.wrong(3, TWO + "deal d moves ^x gives 0;");
        Check.wrong(5, TWO + "deal d moves a gives ^0, x gives 1;");
        Check.wrong(5, TWO + "deal d moves a gives ^0, a gives 1;");
        Check.wrong(5, TWO + "deal d moves a gives 1, ^a gives 0;");
        Check.wrong(4, drones(1) + Check.times(16, "wake a;") + "^wake x;");
        Check.wrong(3, drones(1) + Check.times(15, "wake a;") + "wake ^x; wake x;");
        Check.wrong(4, drones(8) + "drone ^x honey 61;");
        Check.wrong(2, TWO + DEAL + "deal ^d moves x gives 0;");
        Check.wrong(3, TWO + DEAL + "crash a when honey of ^x = waits of y;");
        Check.wrong(3, TWO + DEAL + "crash ^x when honey of y = 1;");
        Check.wrong(3, TWO + "deal d moves ^y gives 1, z gives 1;");
    }

    // ---- "Drones, deals, parts of a deal and orders are numbered from 0, in the order in which they are told."

    private static void numbersAreInTheOrderTold() {
        HoneyAccord hive = Check.hive("drone z honey 1; deal y moves z gets 1; drone b honey 2; deal c moves b gives 2, z gets 3;"
            + "drone a honey 3; deal d moves a gives 4, z gives 5, b gets 6;");
        int[] drones = {0, 1, 0, 2, 0, 1};
        int[] changes = {1, -2, 3, -4, -5, 6};
        int place = 0;
        for (int deal = 0; deal < 3; deal++) {
            Check.same("honey of drone " + deal, deal + 1, hive.honeyOf(deal));
            Check.same("parts of deal " + deal, deal + 1, hive.partsOf(deal));
            for (int part = 0; part <= deal; part++) {
                Check.same("drone in " + deal + ", " + part, drones[place], hive.droneIn(deal, part));
                Check.same("change in " + deal + ", " + part, changes[place], hive.changeIn(deal, part));
                place++;
            }
        }
    }

    private static String drones(int count) {
        StringBuilder text = new StringBuilder();
        for (int i = 0; i < count; i++) {
            text.append("drone ").append((char) ('a' + i)).append(" honey 5; ");
        }
        return text.toString();
    }

    private static String deals(int count) {
        StringBuilder text = new StringBuilder();
        for (int i = 0; i < count; i++) {
            text.append("deal ").append((char) ('n' + i)).append(" moves a gives 1; ");
        }
        return text.toString();
    }

    private static String parts(int count) {
        StringBuilder text = new StringBuilder("a gives 1");
        for (int i = 1; i < count; i++) {
            text.append(", ").append((char) ('a' + i)).append(" gives 1");
        }
        return text.toString();
    }

    private static HoneyAccord tapeOf(int blanks) {
        HoneyAccord hive = new HoneyAccord();
        Check.feed(hive, Check.times(blanks, " "));
        return hive;
    }

    private static void holds(String test) {
        Check.so(test, crashesQueen(test));
    }

    private static void fails(String test) {
        Check.notSo(test, crashesQueen(test));
    }

    private static boolean crashesQueen(String test) {
        HoneyAccord hive = Check.hive("crash queen when " + test + ";");
        hive.passDays(1);
        return !hive.isQueenAwake();
    }
}
