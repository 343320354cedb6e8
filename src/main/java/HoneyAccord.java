/** A beehive that settles deals by two rounds of asking; ../shared/DOC.md says what it promises. */
public final class HoneyAccord {

    private static final int LONGEST_TAPE = 2000;
    private static final int BYTES_A_FEED = 20;
    private static final int MOST_TOKENS = 400;
    private static final int LONGEST_WORD = 10;
    private static final int LONGEST_NUMBER = 6;
    private static final int DEEPEST = 8;

    private static final int MOST_DRONES = 8;
    private static final int MOST_DEALS = 6;
    private static final int MOST_PARTS = 6;
    private static final int MOST_ORDERS = 16;
    private static final int MOST_HONEY_TOLD = 60;
    private static final int MOST_HONEY_KEPT = 99;
    private static final int MOST_HONEY_MOVED = 20;

    private static final int PATIENCE = 3;
    private static final int MOST_DAYS = 30;
    private static final int FARTHEST_LOOK = 40;
    private static final int DAYS_TO_JUDGE_A_WAKING = 3;
    private static final long DIGEST_START = 1087L;
    private static final int DIGEST_FACTOR = 31;

    private static final int NONE = -1;
    /* The queen can stand where an order or a test names a drone, so this must be no drone's number. */
    private static final int THE_QUEEN = MOST_DRONES;

    private static final int RESTS = 0;
    private static final int BEGUN = 1;
    private static final int GRANTED = 2;
    private static final int REFUSED = 3;

    private static final int NOT_VOTED = 0;
    private static final int YES = 1;
    private static final int NO = 2;

    private static final int ERROR_GRAMMAR = 1;
    private static final int ERROR_TOLD_TWICE = 2;
    private static final int ERROR_UNKNOWN = 3;
    private static final int ERROR_TOO_MANY = 4;
    private static final int ERROR_OUT_OF_RANGE = 5;

    /* Kinds of tokens. A symbol of one byte is its own kind, so the others stay clear of printable bytes. */
    private static final int END = 0;
    private static final int WRONG = 1;
    private static final int NAME = 2;
    private static final int NUMBER = 3;
    private static final int NEGATE = 4;
    private static final int AT_MOST = 128 + '<';
    private static final int AT_LEAST = 128 + '>';
    private static final String SYMBOLS = "()[];,+-*/<>=";

    /* A keyword's kind is FIRST_KEYWORD plus its place in KEYWORDS, so both keep one order. */
    private static final String KEYWORDS =
        "drone honey deal moves gives gets begin crash wake queen when day done blocked waits of awake not and or min max";
    private static final int KEYWORD_COUNT = 22;
    private static final int FIRST_KEYWORD = 256;
    private static final int DRONE = 256;
    private static final int HONEY = 257;
    private static final int DEAL = 258;
    private static final int MOVES = 259;
    private static final int GIVES = 260;
    private static final int GETS = 261;
    private static final int BEGIN = 262;
    private static final int CRASH = 263;
    private static final int WAKE = 264;
    private static final int QUEEN = 265;
    private static final int WHEN = 266;
    private static final int DAY = 267;
    private static final int DONE = 268;
    private static final int BLOCKED = 269;
    private static final int WAITS = 270;
    private static final int OF = 271;
    private static final int AWAKE = 272;
    private static final int NOT = 273;
    private static final int AND = 274;
    private static final int OR = 275;
    private static final int MIN = 276;
    private static final int MAX = 277;

    private final Tape tape = new Tape();
    private final Plan draft = new Plan();
    private final Plan told = new Plan();
    private final Teacher teacher = new Teacher(tape, draft);
    private final Hive now = new Hive(told);
    private final Hive trial = new Hive(told);
    private int errorPosition = NONE;

    public HoneyAccord() {
    }

    // ---- the language

    public int feed(int a, int b, int c, int d, int e) throws IllegalStateException {
        if (tape.length > LONGEST_TAPE - BYTES_A_FEED) {
            throw new IllegalStateException("the tape would be longer than 2000 bytes");
        }
        tape.append(a);
        tape.append(b);
        tape.append(c);
        tape.append(d);
        tape.append(e);
        return tape.length;
    }

    public int trim(int n) throws IllegalArgumentException {
        if (n < 0 || n > tape.length) {
            throw new IllegalArgumentException("the tape does not have so many bytes");
        }
        tape.length = n;
        return n;
    }

    public int teach() {
        int error = teacher.readHive();
        errorPosition = teacher.errorPosition();
        tape.length = 0;
        if (error == 0) {
            told.copyFrom(draft);
            now.startAnew();
        }
        return error;
    }

    public int errorAt() {
        return errorPosition;
    }

    // ---- the hive

    public int drones() {
        return told.droneCount;
    }

    public int deals() {
        return told.dealCount;
    }

    public int day() {
        return now.today;
    }

    public int ordersCarriedOut() {
        return now.ordersDone;
    }

    public int blocked() {
        return now.countBlocked();
    }

    public int honey() {
        return now.stores.sum(told.droneCount);
    }

    public boolean isQueenAwake() {
        return now.queenIsUp;
    }

    // ---- drones

    public int honeyOf(int drone) throws IndexOutOfBoundsException {
        requireDrone(drone);
        return now.stores.get(drone);
    }

    public boolean isAwake(int drone) throws IndexOutOfBoundsException {
        requireDrone(drone);
        return now.isUp(drone);
    }

    public int blockedBy(int drone) throws IndexOutOfBoundsException {
        requireDrone(drone);
        return now.blocker.get(drone);
    }

    public int logOf(int drone) throws IndexOutOfBoundsException {
        requireDrone(drone);
        return now.logLines.get(drone);
    }

    // ---- deals

    public int stateOf(int deal) throws IndexOutOfBoundsException {
        requireDeal(deal);
        return now.progress.get(deal);
    }

    public int waitsOf(int deal) throws IndexOutOfBoundsException {
        requireDeal(deal);
        return now.daysWaited(deal);
    }

    public int partsOf(int deal) throws IndexOutOfBoundsException {
        requireDeal(deal);
        return told.partCount.get(deal);
    }

    public int droneIn(int deal, int part) throws IndexOutOfBoundsException {
        requirePart(deal, part);
        return told.partDrone.get(slot(deal, part));
    }

    public int changeIn(int deal, int part) throws IndexOutOfBoundsException {
        requirePart(deal, part);
        return told.partChange.get(slot(deal, part));
    }

    public int voteIn(int deal, int part) throws IndexOutOfBoundsException {
        requirePart(deal, part);
        return now.votes.get(slot(deal, part));
    }

    public boolean hasHeard(int deal, int part) throws IndexOutOfBoundsException {
        requirePart(deal, part);
        return now.heard.get(slot(deal, part)) != 0;
    }

    public int votesFor(int deal) throws IndexOutOfBoundsException {
        requireDeal(deal);
        return now.countVotes(deal, YES);
    }

    public boolean wouldAgree(int deal) throws IndexOutOfBoundsException {
        requireDeal(deal);
        return now.allCanAgree(deal);
    }

    // ---- by hand

    public int begin(int deal) throws IndexOutOfBoundsException, IllegalStateException {
        requireDeal(deal);
        if (!now.startDeal(deal)) {
            throw new IllegalStateException("the deal cannot be begun");
        }
        return now.countBegun();
    }

    public int crash(int drone) throws IndexOutOfBoundsException, IllegalStateException {
        requireDrone(drone);
        if (!now.putToSleep(drone)) {
            throw new IllegalStateException("the drone is asleep");
        }
        return now.countUp();
    }

    public int wake(int drone) throws IndexOutOfBoundsException, IllegalStateException {
        requireDrone(drone);
        if (!now.rouse(drone)) {
            throw new IllegalStateException("the drone is awake");
        }
        return now.countUp();
    }

    public int crashQueen() throws IllegalStateException {
        if (!now.putToSleep(THE_QUEEN)) {
            throw new IllegalStateException("the queen is asleep");
        }
        return now.countBegun();
    }

    public int wakeQueen() throws IllegalStateException {
        int open = now.countBegun();
        if (!now.rouse(THE_QUEEN)) {
            throw new IllegalStateException("the queen is awake");
        }
        return open;
    }

    // ---- days and what would be

    public int passDays(int days) throws IllegalArgumentException {
        requireDays(days);
        int hearings = 0;
        for (int i = 0; i < days; i++) {
            hearings += now.passOneDay();
        }
        return hearings;
    }

    public int honeyAfter(int drone, int days) throws IndexOutOfBoundsException, IllegalArgumentException {
        requireDrone(drone);
        requireDays(days);
        tryDays(days);
        return trial.stores.get(drone);
    }

    public int stateAfter(int deal, int days) throws IndexOutOfBoundsException, IllegalArgumentException {
        requireDeal(deal);
        requireDays(days);
        tryDays(days);
        return trial.progress.get(deal);
    }

    public int daysUntilFree(int drone) throws IndexOutOfBoundsException {
        requireDrone(drone);
        trial.copyFrom(now);
        int days = 0;
        while (days < FARTHEST_LOOK && trial.blocker.get(drone) != NONE) {
            trial.passOneDay();
            days++;
        }
        return trial.blocker.get(drone) == NONE ? days : NONE;
    }

    public int bestToWake() {
        int best = NONE;
        int fewest = 0;
        for (int drone = 0; drone < told.droneCount; drone++) {
            if (!now.isUp(drone)) {
                trial.copyFrom(now);
                trial.rouse(drone);
                for (int i = 0; i < DAYS_TO_JUDGE_A_WAKING; i++) {
                    trial.passOneDay();
                }
                int left = trial.countBlocked();
                if (best == NONE || left < fewest) {
                    best = drone;
                    fewest = left;
                }
            }
        }
        return best;
    }

    public double meanHoney() {
        int count = drones();
        return count == 0 ? 0.0 : (double) honey() / count;
    }

    public long digest() {
        long d = DIGEST_START;
        d = mixed(d, drones());
        d = mixed(d, deals());
        d = mixed(d, day());
        d = mixed(d, ordersCarriedOut());
        d = mixed(d, blocked());
        d = mixed(d, honey());
        d = mixed(d, bit(isQueenAwake()));
        d = mixed(d, bestToWake());
        for (int drone = 0; drone < told.droneCount; drone++) {
            d = mixed(d, honeyOf(drone));
            d = mixed(d, bit(isAwake(drone)));
            d = mixed(d, blockedBy(drone));
            d = mixed(d, logOf(drone));
            d = mixed(d, daysUntilFree(drone));
        }
        for (int deal = 0; deal < told.dealCount; deal++) {
            d = mixed(d, stateOf(deal));
            d = mixed(d, waitsOf(deal));
            d = mixed(d, votesFor(deal));
            d = mixed(d, bit(wouldAgree(deal)));
            for (int part = 0; part < told.partCount.get(deal); part++) {
                d = mixed(d, voteIn(deal, part));
                d = mixed(d, bit(hasHeard(deal, part)));
            }
        }
        return d;
    }

    private static long mixed(long d, int x) {
        return d * DIGEST_FACTOR + x;
    }

    private static int bit(boolean so) {
        return so ? 1 : 0;
    }

    private void tryDays(int days) {
        trial.copyFrom(now);
        for (int i = 0; i < days; i++) {
            trial.passOneDay();
        }
    }

    private void requireDrone(int drone) {
        if (drone < 0 || drone >= told.droneCount) {
            throw new IndexOutOfBoundsException("there is no such drone");
        }
    }

    private void requireDeal(int deal) {
        if (deal < 0 || deal >= told.dealCount) {
            throw new IndexOutOfBoundsException("there is no such deal");
        }
    }

    private void requirePart(int deal, int part) {
        requireDeal(deal);
        if (part < 0 || part >= told.partCount.get(deal)) {
            throw new IndexOutOfBoundsException("the deal has no such part");
        }
    }

    private static void requireDays(int days) {
        if (days < 1 || days > MOST_DAYS) {
            throw new IllegalArgumentException("the days are not 1 to 30");
        }
    }

    /** Where a part stands in the rows that hold the parts of all deals. */
    private static int slot(int deal, int part) {
        return deal * MOST_PARTS + part;
    }

    /** Numbers in a row. An index outside reads 0 and writes nothing, so that no access can throw. */
    private static final class Row {
        private final int[] cells;

        Row(int length) {
            cells = new int[length < 0 ? 0 : length];
        }

        int get(int i) {
            return i >= 0 && i < cells.length ? cells[i] : 0;
        }

        void set(int i, int x) {
            if (i >= 0 && i < cells.length) {
                cells[i] = x;
            }
        }

        void add(int i, int x) {
            set(i, get(i) + x);
        }

        void setAll(int x) {
            for (int i = 0; i < cells.length; i++) {
                cells[i] = x;
            }
        }

        void copyFrom(Row other) {
            for (int i = 0; i < cells.length; i++) {
                cells[i] = other.get(i);
            }
        }

        int sum(int count) {
            int all = 0;
            for (int i = 0; i < count; i++) {
                all += get(i);
            }
            return all;
        }
    }

    private static final class Tape {
        private final Row bytes = new Row(LONGEST_TAPE);
        private int length;

        void append(int word) {
            for (int shift = 24; shift >= 0; shift -= 8) {
                bytes.set(length, word >>> shift & 255);
                length++;
            }
        }

        /** Behind the end stands 0, with which no token begins or goes on. */
        int at(int i) {
            return i < length ? bytes.get(i) : 0;
        }
    }

    /** The tokens of the tape up to the first that is wrong, and the one of them that is looked at. */
    private static final class Tokens {
        private final Tape tape;
        private final long[] keywords = new long[KEYWORD_COUNT];
        private final int[] kinds = new int[MOST_TOKENS + 1];
        private final int[] starts = new int[MOST_TOKENS + 1];
        private final long[] values = new long[MOST_TOKENS + 1];
        private int next;
        private long valueRead;
        private int index;
        private int kind;
        private int start;
        private long value;

        Tokens(Tape tape) {
            this.tape = tape;
            int place = 0;
            for (int i = 0; i < KEYWORDS.length(); i++) {
                char sign = KEYWORDS.charAt(i);
                if (sign == ' ') {
                    place++;
                } else if (place < keywords.length) {
                    keywords[place] = longer(keywords[place], sign);
                }
            }
        }

        /** Words of ten signs fit in a long, so words can be kept and compared without making objects. */
        private static long longer(long word, int sign) {
            return word * 37 + (isLetter(sign) ? sign - 'a' + 1 : sign - '0' + 27);
        }

        /** There is room for one token more than may be, as the end or the one too many takes a place. */
        void readTape() {
            next = 0;
            int last = NAME;
            int places = Math.min(kinds.length, Math.min(starts.length, values.length));
            for (int i = 0; i < places && last != END && last != WRONG; i++) {
                skipGaps();
                starts[i] = next;
                last = i < MOST_TOKENS || next >= tape.length ? readToken() : WRONG;
                kinds[i] = last;
                values[i] = valueRead;
            }
            index = -1;
            advance();
        }

        /** Reads its rows without the help of Row, as a call more would make the longest chain of calls nine deep. */
        void advance() {
            index++;
            if (index >= 0 && index < kinds.length && index < starts.length && index < values.length) {
                kind = kinds[index];
                start = starts[index];
                value = values[index];
            }
        }

        private void skipGaps() {
            while (next < tape.length && (tape.at(next) == ' ' || tape.at(next) == '\n')) {
                next++;
            }
        }

        private int readToken() {
            int first = tape.at(next);
            if (next >= tape.length) {
                return END;
            }
            if (isLetter(first)) {
                return readWord();
            }
            return isDigit(first) ? readNumber() : readSymbol(first);
        }

        private int readWord() {
            int from = next;
            valueRead = 0;
            while (next < tape.length && (isLetter(tape.at(next)) || isDigit(tape.at(next)))) {
                valueRead = longer(valueRead, tape.at(next));
                next++;
            }
            return next - from > LONGEST_WORD ? WRONG : kindOfWord();
        }

        private int kindOfWord() {
            for (int i = 0; i < keywords.length; i++) {
                if (keywords[i] == valueRead) {
                    return FIRST_KEYWORD + i;
                }
            }
            return NAME;
        }

        private int readNumber() {
            int from = next;
            valueRead = 0;
            while (next < tape.length && isDigit(tape.at(next))) {
                valueRead = valueRead * 10 + tape.at(next) - '0';
                next++;
            }
            return next - from > LONGEST_NUMBER ? WRONG : NUMBER;
        }

        private int readSymbol(int first) {
            next++;
            if ((first == '<' || first == '>') && tape.at(next) == '=') {
                next++;
                return first == '<' ? AT_MOST : AT_LEAST;
            }
            return SYMBOLS.indexOf((char) first) >= 0 ? first : WRONG;
        }

        private static boolean isLetter(int sign) {
            return sign >= 'a' && sign <= 'z';
        }

        private static boolean isDigit(int sign) {
            return sign >= '0' && sign <= '9';
        }
    }

    private static final class Names {
        private final long[] words;
        private int count;

        Names(int most) {
            words = new long[most < 0 ? 0 : most];
        }

        void add(long word) {
            if (count >= 0 && count < words.length) {
                words[count] = word;
                count++;
            }
        }

        boolean isFull() {
            return count >= words.length;
        }

        int find(long word) {
            for (int i = 0; i < count && i < words.length; i++) {
                if (words[i] == word) {
                    return i;
                }
            }
            return NONE;
        }
    }

    /** What was told: drones, deals, orders, and the tests of orders as code for a machine with a stack. */
    private static final class Plan {
        private int droneCount;
        private int dealCount;
        private int orderCount;
        private int codeLength;
        private final Row firstHoney = new Row(MOST_DRONES);
        private final Row partCount = new Row(MOST_DEALS);
        private final Row partDrone = new Row(MOST_DEALS * MOST_PARTS);
        private final Row partChange = new Row(MOST_DEALS * MOST_PARTS);
        private final Row orderVerb = new Row(MOST_ORDERS);
        private final Row orderTarget = new Row(MOST_ORDERS);
        private final Row testStart = new Row(MOST_ORDERS);
        private final Row testEnd = new Row(MOST_ORDERS);
        private final Row codeKind = new Row(MOST_TOKENS);
        private final Row codeDetail = new Row(MOST_TOKENS);

        void clear() {
            droneCount = 0;
            dealCount = 0;
            orderCount = 0;
            codeLength = 0;
        }

        void addCode(int kind, int detail) {
            codeKind.set(codeLength, kind);
            codeDetail.set(codeLength, detail);
            codeLength++;
        }

        /** The code of the order's test has been added already, from start on. */
        void addOrder(int verb, int target, int start) {
            orderVerb.set(orderCount, verb);
            orderTarget.set(orderCount, target);
            testStart.set(orderCount, start);
            testEnd.set(orderCount, codeLength);
            orderCount++;
        }

        void copyFrom(Plan other) {
            droneCount = other.droneCount;
            dealCount = other.dealCount;
            orderCount = other.orderCount;
            codeLength = other.codeLength;
            firstHoney.copyFrom(other.firstHoney);
            partCount.copyFrom(other.partCount);
            partDrone.copyFrom(other.partDrone);
            partChange.copyFrom(other.partChange);
            orderVerb.copyFrom(other.orderVerb);
            orderTarget.copyFrom(other.orderTarget);
            testStart.copyFrom(other.testStart);
            testEnd.copyFrom(other.testEnd);
            codeKind.copyFrom(other.codeKind);
            codeDetail.copyFrom(other.codeDetail);
        }
    }

    /**
     * Reads the tape into a draft. A fault of names or numbers does not end the reading, as error 1 goes
     * before it wherever it stands. So faults may be found at a token of a wrong kind too: it breaks the
     * grammar anyway. Behind error 1 the token stays WRONG, which no rule takes, so all ends soon.
     */
    private static final class Teacher {
        private final Tokens tokens;
        private final Plan draft;
        private final Names droneNames = new Names(MOST_DRONES);
        private final Names dealNames = new Names(MOST_DEALS);
        private int brokenAt;
        private int fault;
        private int faultAt;

        Teacher(Tape tape, Plan draft) {
            this.tokens = new Tokens(tape);
            this.draft = draft;
        }

        int readHive() {
            brokenAt = NONE;
            fault = 0;
            faultAt = NONE;
            draft.clear();
            droneNames.count = 0;
            dealNames.count = 0;
            tokens.readTape();
            for (int i = 0; i < MOST_TOKENS && tokens.kind != END && brokenAt == NONE; i++) {
                if (accept(DRONE)) {
                    readDrone();
                } else if (accept(DEAL)) {
                    readDeal();
                } else {
                    readOrder();
                }
                expect(';');
            }
            return brokenAt != NONE ? ERROR_GRAMMAR : fault;
        }

        int errorPosition() {
            return brokenAt != NONE ? brokenAt : faultAt;
        }

        private void breakOff() {
            if (brokenAt == NONE) {
                brokenAt = tokens.start;
            }
            tokens.kind = WRONG;
        }

        private void blame(int error) {
            if (fault == 0) {
                fault = error;
                faultAt = tokens.start;
            }
        }

        private boolean accept(int kind) {
            if (tokens.kind != kind) {
                return false;
            }
            tokens.advance();
            return true;
        }

        private void expect(int kind) {
            if (tokens.kind == kind) {
                tokens.advance();
            } else {
                breakOff();
            }
        }

        private void readDrone() {
            readNewName(droneNames);
            expect(HONEY);
            int told = (int) tokens.value;
            if (told > MOST_HONEY_TOLD) {
                blame(ERROR_OUT_OF_RANGE);
            }
            expect(NUMBER);
            draft.firstHoney.set(droneNames.count - 1, told);
            draft.droneCount = droneNames.count;
        }

        private void readDeal() {
            readNewName(dealNames);
            expect(MOVES);
            int deal = dealNames.count - 1;
            readPart(deal, 0);
            int parts = 1;
            for (int i = 0; i < MOST_TOKENS && accept(','); i++) {
                readPart(deal, parts);
                parts++;
            }
            draft.partCount.set(deal, parts);
            draft.dealCount = dealNames.count;
        }

        private void readNewName(Names names) {
            if (droneNames.find(tokens.value) != NONE || dealNames.find(tokens.value) != NONE) {
                blame(ERROR_TOLD_TWICE);
            }
            if (names.isFull()) {
                blame(ERROR_TOO_MANY);
            }
            names.add(tokens.value);
            expect(NAME);
        }

        private void readPart(int deal, int part) {
            int drone = lookUp(droneNames);
            if (part >= MOST_PARTS) {
                blame(ERROR_TOO_MANY);
            }
            if (hasPartOf(deal, part, drone)) {
                blame(ERROR_OUT_OF_RANGE);
            }
            expect(NAME);
            boolean gives = tokens.kind == GIVES;
            if (!accept(GIVES)) {
                expect(GETS);
            }
            int moved = (int) tokens.value;
            if (moved < 1 || moved > MOST_HONEY_MOVED) {
                blame(ERROR_OUT_OF_RANGE);
            }
            expect(NUMBER);
            if (part < MOST_PARTS) {
                draft.partDrone.set(slot(deal, part), drone);
                draft.partChange.set(slot(deal, part), gives ? -moved : moved);
            }
        }

        private boolean hasPartOf(int deal, int parts, int drone) {
            for (int part = 0; part < parts && part < MOST_PARTS; part++) {
                if (draft.partDrone.get(slot(deal, part)) == drone) {
                    return true;
                }
            }
            return false;
        }

        private int lookUp(Names names) {
            int found = names.find(tokens.value);
            if (found == NONE) {
                blame(ERROR_UNKNOWN);
            }
            return found;
        }

        private int readKnownName(Names names) {
            int found = lookUp(names);
            expect(NAME);
            return found;
        }

        private int readDroneOrQueen() {
            return accept(QUEEN) ? THE_QUEEN : readKnownName(droneNames);
        }

        private void readOrder() {
            if (draft.orderCount >= MOST_ORDERS) {
                blame(ERROR_TOO_MANY);
            }
            int verb = tokens.kind;
            int target;
            if (accept(BEGIN)) {
                target = readKnownName(dealNames);
            } else {
                if (!accept(CRASH)) {
                    expect(WAKE);
                }
                target = readDroneOrQueen();
            }
            int start = draft.codeLength;
            if (accept(WHEN)) {
                readTest(0);
            }
            draft.addOrder(verb, target, start);
        }

        private void readTest(int depth) {
            readBoth(depth);
            for (int i = 0; i < MOST_TOKENS && accept(OR); i++) {
                readBoth(depth);
                draft.addCode(OR, 0);
            }
        }

        private void readBoth(int depth) {
            readSingle(depth);
            for (int i = 0; i < MOST_TOKENS && accept(AND); i++) {
                readSingle(depth);
                draft.addCode(AND, 0);
            }
        }

        private void readSingle(int depth) {
            if (tokens.kind == NOT) {
                if (goDeeper(NOT, depth)) {
                    readSingle(depth + 1);
                    draft.addCode(NOT, 0);
                }
            } else if (tokens.kind == '[') {
                if (goDeeper('[', depth)) {
                    readTest(depth + 1);
                    expect(']');
                }
            } else if (accept(AWAKE)) {
                draft.addCode(AWAKE, readDroneOrQueen());
            } else {
                readSum(depth);
                int sign = readComparingSign();
                readSum(depth);
                draft.addCode(sign, 0);
            }
        }

        private int readComparingSign() {
            int sign = tokens.kind;
            if (sign == '<' || sign == '>' || sign == '=' || sign == AT_MOST || sign == AT_LEAST) {
                tokens.advance();
            } else {
                breakOff();
            }
            return sign;
        }

        private void readSum(int depth) {
            readProduct(depth);
            for (int i = 0; i < MOST_TOKENS && (tokens.kind == '+' || tokens.kind == '-'); i++) {
                int sign = tokens.kind;
                tokens.advance();
                readProduct(depth);
                draft.addCode(sign, 0);
            }
        }

        private void readProduct(int depth) {
            readValue(depth);
            for (int i = 0; i < MOST_TOKENS && (tokens.kind == '*' || tokens.kind == '/'); i++) {
                int sign = tokens.kind;
                tokens.advance();
                readValue(depth);
                draft.addCode(sign, 0);
            }
        }

        private void readValue(int depth) {
            int kind = tokens.kind;
            if (kind == NUMBER) {
                draft.addCode(NUMBER, (int) tokens.value);
                tokens.advance();
            } else if (kind == DAY || kind == DONE || kind == BLOCKED) {
                draft.addCode(kind, 0);
                tokens.advance();
            } else if (kind == HONEY || kind == WAITS) {
                tokens.advance();
                expect(OF);
                draft.addCode(kind, readKnownName(kind == HONEY ? droneNames : dealNames));
            } else if (kind == '-') {
                if (goDeeper('-', depth)) {
                    readValue(depth + 1);
                    draft.addCode(NEGATE, 0);
                }
            } else if (kind == MIN || kind == MAX) {
                tokens.advance();
                readPair(kind, depth);
            } else if (goDeeper('(', depth)) {
                readSum(depth + 1);
                expect(')');
            }
        }

        private void readPair(int kind, int depth) {
            if (goDeeper('(', depth)) {
                readSum(depth + 1);
                expect(',');
                readSum(depth + 1);
                expect(')');
                draft.addCode(kind, 0);
            }
        }

        /** Takes the token behind which it is one deeper, unless that is too deep or not the token here. */
        private boolean goDeeper(int kind, int depth) {
            if (depth >= DEEPEST) {
                breakOff();
            } else {
                expect(kind);
            }
            return brokenAt == NONE;
        }
    }

    private static final class Reckoner {
        private final Row stack = new Row(MOST_TOKENS);
        private int height;

        /** An order without a test always may be carried out. */
        boolean holds(Plan plan, int order, Hive hive) {
            int start = plan.testStart.get(order);
            int end = plan.testEnd.get(order);
            height = 0;
            for (int i = start; i < end; i++) {
                int kind = plan.codeKind.get(i);
                if (kind == NOT) {
                    push(bit(pop() == 0));
                } else if (kind == NEGATE) {
                    push(-pop());
                } else if (isValue(kind)) {
                    push(valueOf(kind, plan.codeDetail.get(i), hive));
                } else {
                    int right = pop();
                    int left = pop();
                    push(joined(kind, left, right));
                }
            }
            return start == end || pop() != 0;
        }

        private void push(int x) {
            stack.set(height, x);
            height++;
        }

        private int pop() {
            height--;
            return stack.get(height);
        }

        private static boolean isValue(int kind) {
            return kind == NUMBER || kind == DAY || kind == DONE || kind == BLOCKED
                || kind == HONEY || kind == WAITS || kind == AWAKE;
        }

        private static int valueOf(int kind, int detail, Hive hive) {
            switch (kind) {
                case DAY:
                    return hive.today;
                case DONE:
                    return hive.ordersDone;
                case BLOCKED:
                    return hive.countBlocked();
                case HONEY:
                    return hive.stores.get(detail);
                case WAITS:
                    return hive.daysWaited(detail);
                case AWAKE:
                    return bit(hive.isUp(detail));
                default:
                    return detail;
            }
        }

        private static int joined(int kind, int left, int right) {
            switch (kind) {
                case OR:
                    return left | right;
                case AND:
                    return left & right;
                case '<':
                    return bit(left < right);
                case '>':
                    return bit(left > right);
                case '=':
                    return bit(left == right);
                case AT_MOST:
                    return bit(left <= right);
                case AT_LEAST:
                    return bit(left >= right);
                case '+':
                    return left + right;
                case '-':
                    return left - right;
                case '*':
                    return left * right;
                case '/':
                    return right == 0 ? 0 : left / right;
                case MIN:
                    return Math.min(left, right);
                default:
                    return Math.max(left, right);
            }
        }
    }

    private static final class Hive {
        private final Plan plan;
        private final Reckoner reckoner = new Reckoner();
        private final Row stores = new Row(MOST_DRONES);
        private final Row asleep = new Row(MOST_DRONES);
        private final Row blocker = new Row(MOST_DRONES);
        private final Row logLines = new Row(MOST_DRONES);
        private final Row progress = new Row(MOST_DEALS);
        private final Row begunOn = new Row(MOST_DEALS);
        private final Row votes = new Row(MOST_DEALS * MOST_PARTS);
        private final Row heard = new Row(MOST_DEALS * MOST_PARTS);
        private int today;
        private int ordersDone;
        private boolean queenIsUp;

        Hive(Plan plan) {
            this.plan = plan;
            startAnew();
        }

        void startAnew() {
            stores.copyFrom(plan.firstHoney);
            asleep.setAll(0);
            blocker.setAll(NONE);
            logLines.setAll(0);
            progress.setAll(RESTS);
            begunOn.setAll(0);
            votes.setAll(NOT_VOTED);
            heard.setAll(0);
            today = 0;
            ordersDone = 0;
            queenIsUp = true;
        }

        void copyFrom(Hive other) {
            stores.copyFrom(other.stores);
            asleep.copyFrom(other.asleep);
            blocker.copyFrom(other.blocker);
            logLines.copyFrom(other.logLines);
            progress.copyFrom(other.progress);
            begunOn.copyFrom(other.begunOn);
            votes.copyFrom(other.votes);
            heard.copyFrom(other.heard);
            today = other.today;
            ordersDone = other.ordersDone;
            queenIsUp = other.queenIsUp;
        }

        boolean isUp(int sleeper) {
            return sleeper == THE_QUEEN ? queenIsUp : asleep.get(sleeper) == 0;
        }

        int countUp() {
            return plan.droneCount - asleep.sum(plan.droneCount);
        }

        int countBlocked() {
            int count = 0;
            for (int drone = 0; drone < plan.droneCount; drone++) {
                count += bit(blocker.get(drone) != NONE);
            }
            return count;
        }

        int countBegun() {
            int count = 0;
            for (int deal = 0; deal < plan.dealCount; deal++) {
                count += bit(progress.get(deal) == BEGUN);
            }
            return count;
        }

        int countVotes(int deal, int vote) {
            int count = 0;
            for (int part = 0; part < plan.partCount.get(deal); part++) {
                count += bit(votes.get(slot(deal, part)) == vote);
            }
            return count;
        }

        int daysWaited(int deal) {
            return progress.get(deal) == BEGUN ? today - begunOn.get(deal) : 0;
        }

        boolean allCanAgree(int deal) {
            for (int part = 0; part < plan.partCount.get(deal); part++) {
                if (!canAgree(slot(deal, part))) {
                    return false;
                }
            }
            return true;
        }

        private boolean canAgree(int place) {
            int drone = plan.partDrone.get(place);
            int behind = stores.get(drone) + plan.partChange.get(place);
            return blocker.get(drone) == NONE && behind >= 0 && behind <= MOST_HONEY_KEPT;
        }

        /** Answers whether it could be done, as the other doings of orders and hands do. */
        boolean startDeal(int deal) {
            if (!queenIsUp || !isOver(deal)) {
                return false;
            }
            progress.set(deal, BEGUN);
            begunOn.set(deal, today);
            for (int part = 0; part < plan.partCount.get(deal); part++) {
                votes.set(slot(deal, part), NOT_VOTED);
                heard.set(slot(deal, part), 0);
            }
            return true;
        }

        private boolean isOver(int deal) {
            int state = progress.get(deal);
            if (state == RESTS || state == BEGUN) {
                return state == RESTS;
            }
            for (int part = 0; part < plan.partCount.get(deal); part++) {
                if (heard.get(slot(deal, part)) == 0) {
                    return false;
                }
            }
            return true;
        }

        boolean putToSleep(int sleeper) {
            if (!isUp(sleeper)) {
                return false;
            }
            if (sleeper == THE_QUEEN) {
                queenIsUp = false;
            } else {
                asleep.set(sleeper, 1);
            }
            return true;
        }

        boolean rouse(int sleeper) {
            if (isUp(sleeper)) {
                return false;
            }
            if (sleeper == THE_QUEEN) {
                queenIsUp = true;
                refuseBegun();
            } else {
                asleep.set(sleeper, 0);
            }
            return true;
        }

        private void refuseBegun() {
            for (int deal = 0; deal < plan.dealCount; deal++) {
                if (progress.get(deal) == BEGUN) {
                    progress.set(deal, REFUSED);
                }
            }
        }

        int passOneDay() {
            obeyOrders();
            if (queenIsUp) {
                collectVotes();
                decideDeals();
            }
            int hearings = spreadNews();
            today++;
            return hearings;
        }

        private void obeyOrders() {
            for (int order = 0; order < plan.orderCount; order++) {
                if (reckoner.holds(plan, order, this)
                        && obey(plan.orderVerb.get(order), plan.orderTarget.get(order))) {
                    ordersDone++;
                }
            }
        }

        private boolean obey(int verb, int target) {
            if (verb == BEGIN) {
                return startDeal(target);
            }
            return verb == CRASH ? putToSleep(target) : rouse(target);
        }

        private void collectVotes() {
            for (int deal = 0; deal < plan.dealCount; deal++) {
                if (progress.get(deal) == BEGUN) {
                    askParts(deal);
                }
            }
        }

        private void askParts(int deal) {
            for (int part = 0; part < plan.partCount.get(deal); part++) {
                int place = slot(deal, part);
                int drone = plan.partDrone.get(place);
                if (votes.get(place) == NOT_VOTED && isUp(drone)) {
                    boolean agrees = canAgree(place);
                    votes.set(place, agrees ? YES : NO);
                    if (agrees) {
                        blocker.set(drone, deal);
                        logLines.add(drone, 1);
                    }
                }
            }
        }

        private void decideDeals() {
            for (int deal = 0; deal < plan.dealCount; deal++) {
                if (progress.get(deal) == BEGUN) {
                    if (countVotes(deal, NO) > 0) {
                        progress.set(deal, REFUSED);
                    } else if (countVotes(deal, YES) == plan.partCount.get(deal)) {
                        progress.set(deal, GRANTED);
                    } else if (daysWaited(deal) >= PATIENCE) {
                        progress.set(deal, REFUSED);
                    }
                }
            }
        }

        private int spreadNews() {
            int hearings = 0;
            for (int deal = 0; deal < plan.dealCount; deal++) {
                int state = progress.get(deal);
                if (state == GRANTED || state == REFUSED) {
                    hearings += tellParts(deal);
                }
            }
            return hearings;
        }

        private int tellParts(int deal) {
            int hearings = 0;
            for (int part = 0; part < plan.partCount.get(deal); part++) {
                int place = slot(deal, part);
                boolean listens = isUp(plan.partDrone.get(place)) && heard.get(place) == 0;
                if (listens && (queenIsUp || someoneKnows(deal))) {
                    hear(deal, place);
                    hearings++;
                }
            }
            return hearings;
        }

        /** The part that asks has not heard itself, so it need not be left out. */
        private boolean someoneKnows(int deal) {
            for (int part = 0; part < plan.partCount.get(deal); part++) {
                int place = slot(deal, part);
                if (heard.get(place) != 0 && isUp(plan.partDrone.get(place))) {
                    return true;
                }
            }
            return false;
        }

        private void hear(int deal, int place) {
            int drone = plan.partDrone.get(place);
            heard.set(place, 1);
            logLines.add(drone, 1);
            if (progress.get(deal) == GRANTED) {
                stores.add(drone, plan.partChange.get(place));
            }
            if (blocker.get(drone) == deal) {
                blocker.set(drone, NONE);
            }
        }
    }
}
