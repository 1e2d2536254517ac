import java.util.Arrays;

/**
 * A chargeback processor: purchases, disputes with stages and deadlines, evidence and its score,
 * arbitration, fees, and the accounts of issuers, merchants and the network.
 */
public final class ChargebackProcessor {
    public static final int SYNTAX_ERROR = -2;
    public static final int OUT_OF_RANGE = -3;
    public static final int TOO_MANY = -4;
    public static final int TOO_DEEP = -5;
    public static final int FILED = 0;
    public static final int REPRESENTED = 1;
    public static final int ESCALATED = 2;
    public static final int ARBITRATION = 3;
    public static final int ISSUER_WON = 4;
    public static final int MERCHANT_WON = 5;

    private static final int MAX_PARTIES = 4;
    private static final int MAX_REASONS = 8;
    private static final int MAX_PURCHASES = 24;
    private static final int MAX_DISPUTES = 20;
    private static final int MAX_AMOUNT = 99999;
    private static final int MAX_DAYS_TO_PASS = 100;
    private static final int LAST_DAY = 9999;
    private static final int EVIDENCE_TYPES = 8;
    private static final int ALL_EVIDENCE = 255;
    private static final int NONE = -1;

    private final InputBuffer input;
    private final History history;
    private int errorOffset;

    public ChargebackProcessor() {
        input = new InputBuffer();
        history = new History(new Setup());
        errorOffset = NONE;
    }

    public int append(int w0, int w1, int w2, int w3, int w4) {
        if (!input.hasRoom()) {
            return NONE;
        }
        input.addWord(w0);
        input.addWord(w1);
        input.addWord(w2);
        input.addWord(w3);
        input.addWord(w4);
        return input.length;
    }

    public int load(int length) throws IllegalArgumentException {
        if (length < 0 || length > input.length) {
            throw new IllegalArgumentException("the buffer has no such length");
        }
        SetupReader reader = new SetupReader(new Tokens(input.bytes, length));
        reader.readAll();
        input.clear();
        if (reader.errorCode != 0) {
            errorOffset = reader.errorOffset;
            return reader.errorCode;
        }
        errorOffset = NONE;
        history.beginChange().startAnew(reader.setup);
        return reader.setup.reasons;
    }

    public int errorOffset() {
        return errorOffset;
    }

    public int issuerCount() {
        return history.present().setup.issuers;
    }

    public int merchantCount() {
        return history.present().setup.merchants;
    }

    public int reasonCount() {
        return history.present().setup.reasons;
    }

    public int purchaseCount() {
        return history.present().purchases;
    }

    public int disputeCount() {
        return history.present().disputes;
    }

    public int today() {
        return history.present().day;
    }

    public int reasonOf(int code) {
        return history.present().setup.reasonWithCode(code);
    }

    public int issuerAccount(int issuer) throws IndexOutOfBoundsException {
        Book book = history.present();
        checkIndex(issuer, book.setup.issuers);
        return book.issuerAccounts[issuer];
    }

    public int merchantAccount(int merchant) throws IndexOutOfBoundsException {
        Book book = bookWithMerchant(merchant);
        return book.merchantAccounts[merchant];
    }

    public int networkAccount() {
        return history.present().networkMoney;
    }

    public int disputed(int purchase) throws IndexOutOfBoundsException {
        Book book = history.present();
        checkIndex(purchase, book.purchases);
        return book.disputedAmount(purchase);
    }

    public int state(int dispute) throws IndexOutOfBoundsException {
        return bookWithDispute(dispute).disputeState[dispute];
    }

    public int deadline(int dispute) throws IndexOutOfBoundsException {
        return bookWithDispute(dispute).disputeDeadline[dispute];
    }

    public int evidence(int dispute) throws IndexOutOfBoundsException {
        return bookWithDispute(dispute).disputeEvidence[dispute];
    }

    public boolean isWithMerchant(int dispute) throws IndexOutOfBoundsException {
        return bookWithDispute(dispute).merchantHolds(dispute);
    }

    public int score(int dispute) throws IndexOutOfBoundsException {
        return bookWithDispute(dispute).ownScore(dispute);
    }

    public boolean wouldWin(int dispute, int evidence) throws IndexOutOfBoundsException, IllegalArgumentException {
        Book book = bookWithDispute(dispute);
        checkRange(evidence, 0, ALL_EVIDENCE);
        return book.convinces(dispute, evidence);
    }

    public int bestEvidence(int dispute) throws IndexOutOfBoundsException {
        return bookWithDispute(dispute).leastConvincing(dispute);
    }

    public int nextDeadline() {
        return history.present().earliestDeadline();
    }

    public int rate(int merchant) throws IndexOutOfBoundsException {
        return bookWithMerchant(merchant).disputeRate(merchant);
    }

    public boolean isWatched(int merchant) throws IndexOutOfBoundsException {
        Book book = bookWithMerchant(merchant);
        return book.disputeRate(merchant) > book.setup.limit;
    }

    public int exposure(int merchant) throws IndexOutOfBoundsException {
        return bookWithMerchant(merchant).openAmount(merchant);
    }

    public int settled(int merchant) throws IndexOutOfBoundsException {
        return bookWithMerchant(merchant).predictedAccount(merchant);
    }

    public int purchase(int issuer, int merchant, int amount) throws IndexOutOfBoundsException, IllegalArgumentException, IllegalStateException {
        Book book = history.present();
        checkIndex(issuer, book.setup.issuers);
        checkIndex(merchant, book.setup.merchants);
        checkRange(amount, 1, MAX_AMOUNT);
        if (book.purchases >= MAX_PURCHASES) {
            throw new IllegalStateException("there are too many purchases");
        }
        return history.beginChange().addPurchase(issuer, merchant, amount);
    }

    public int file(int purchase, int reason, int amount) throws IndexOutOfBoundsException, IllegalArgumentException, IllegalStateException {
        Book book = history.present();
        checkIndex(purchase, book.purchases);
        checkIndex(reason, book.setup.reasons);
        checkRange(amount, 1, MAX_AMOUNT);
        if (amount > book.purchaseAmount[purchase] - book.disputedAmount(purchase)) {
            throw new IllegalArgumentException("so much of the purchase is not free to dispute");
        }
        if (book.isTooLate(purchase, reason) || book.disputes >= MAX_DISPUTES) {
            throw new IllegalStateException("it is too late, or there are too many disputes");
        }
        return history.beginChange().addDispute(purchase, reason, amount);
    }

    public int represent(int dispute, int evidence) throws IndexOutOfBoundsException, IllegalArgumentException, IllegalStateException {
        Book book = bookWithDispute(dispute);
        checkRange(evidence, 1, ALL_EVIDENCE);
        checkState(book, dispute, FILED);
        Book changed = history.beginChange();
        changed.toRepresented(dispute, evidence);
        return changed.ownScore(dispute);
    }

    public int escalate(int dispute) throws IndexOutOfBoundsException, IllegalStateException {
        Book book = bookWithDispute(dispute);
        checkState(book, dispute, REPRESENTED);
        Book changed = history.beginChange();
        changed.toEscalated(dispute);
        return changed.disputeDeadline[dispute];
    }

    public int contest(int dispute, int evidence) throws IndexOutOfBoundsException, IllegalArgumentException, IllegalStateException {
        Book book = bookWithDispute(dispute);
        checkRange(evidence, 0, ALL_EVIDENCE);
        checkState(book, dispute, ESCALATED);
        Book changed = history.beginChange();
        changed.toArbitration(dispute, evidence);
        return changed.disputeDeadline[dispute] + 1;
    }

    public int accept(int dispute) throws IndexOutOfBoundsException, IllegalStateException {
        Book book = bookWithDispute(dispute);
        if (book.disputeState[dispute] == ARBITRATION || book.isFinal(dispute)) {
            throw new IllegalStateException("nobody can accept this dispute");
        }
        Book changed = history.beginChange();
        changed.finish(dispute, changed.idleOutcome(dispute));
        return changed.disputeState[dispute];
    }

    public int pass(int days) throws IllegalArgumentException, IllegalStateException {
        checkRange(days, 1, MAX_DAYS_TO_PASS);
        if (history.present().day + days > LAST_DAY) {
            throw new IllegalStateException("the days are used up");
        }
        Book changed = history.beginChange();
        int finished = 0;
        for (int i = 0; i < days; i++) {
            finished += changed.endDay();
        }
        return finished;
    }

    public int undo() {
        return history.stepBack();
    }

    public long checksum() {
        Book book = history.present();
        long sum = book.day;
        for (int i = 0; i < book.setup.issuers; i++) {
            sum = 31 * sum + book.issuerAccounts[i];
        }
        for (int i = 0; i < book.setup.merchants; i++) {
            sum = 31 * sum + book.merchantAccounts[i];
        }
        sum = 31 * sum + book.networkMoney;
        for (int i = 0; i < book.purchases; i++) {
            sum = 31 * sum + book.disputedAmount(i);
        }
        for (int i = 0; i < book.disputes; i++) {
            sum = 31 * sum + book.disputeState[i];
            sum = 31 * sum + book.disputeDeadline[i];
            sum = 31 * sum + book.disputeEvidence[i];
        }
        return sum;
    }

    private Book bookWithMerchant(int merchant) {
        Book book = history.present();
        checkIndex(merchant, book.setup.merchants);
        return book;
    }

    private Book bookWithDispute(int dispute) {
        Book book = history.present();
        checkIndex(dispute, book.disputes);
        return book;
    }

    private static void checkIndex(int index, int count) {
        if (index < 0 || index >= count) {
            throw new IndexOutOfBoundsException("there is no such index");
        }
    }

    private static void checkRange(int value, int low, int high) {
        if (value < low || value > high) {
            throw new IllegalArgumentException("a number is out of range");
        }
    }

    private static void checkState(Book book, int dispute, int wanted) {
        if (book.disputeState[dispute] != wanted) {
            throw new IllegalStateException("the dispute is in another state");
        }
    }

    /** The bytes that wait for load. */
    private static final class InputBuffer {
        static final int CAPACITY = 900;
        static final int BYTES_PER_APPEND = 20;

        final byte[] bytes;
        int length;

        InputBuffer() {
            bytes = new byte[CAPACITY];
        }

        boolean hasRoom() {
            return length + BYTES_PER_APPEND <= CAPACITY;
        }

        void addWord(int word) {
            for (int shift = 24; shift >= 0; shift -= 8) {
                if (length < CAPACITY) {
                    bytes[length] = (byte) (word >> shift);
                    length++;
                }
            }
        }

        void clear() {
            length = 0;
        }
    }

    /** The setup text cut into tokens; the last one is always END. */
    private static final class Tokens {
        // A sign's kind is its byte, so the other kinds lie outside 0 to 255.
        static final int END = -1;
        static final int NUMBER = 256;
        static final int PARTIES = 257;
        static final int REASON = 258;
        static final int NEEDS = 259;
        static final int FEES = 260;
        static final int SCORE = 261;
        static final int LIMIT = 262;
        static final int COUNT = 263;
        static final int NEEDED = 264;
        static final int AMOUNT = 265;
        static final int DAYS = 266;
        static final int UNKNOWN_WORD = 267;

        // Above every range of the grammar, and far from overflow with one digit more.
        static final int HUGE = 100000;

        final byte[] text;
        final int length;
        final int[] kinds;
        final int[] starts;
        final int[] values;
        int count;

        Tokens(byte[] bytes, int wantedLength) {
            text = bytes;
            length = Math.max(0, Math.min(wantedLength, bytes.length));
            kinds = new int[length + 1];
            starts = new int[length + 1];
            values = new int[length + 1];
        }

        void cut() {
            int end = 0;
            for (int at = 0; at < length; at = Math.max(at + 1, end)) {
                if (isDigit(text[at])) {
                    end = endOfDigits(at);
                    add(NUMBER, at, valueOfDigits(at, end));
                } else if (isLetter(text[at])) {
                    end = endOfLetters(at);
                    add(kindOfWord(at, end), at, 0);
                } else if (text[at] != ' ') {
                    add(text[at] & 255, at, 0);
                }
            }
            add(END, length, 0);
        }

        private void add(int kind, int start, int value) {
            if (count < kinds.length) {
                kinds[count] = kind;
                starts[count] = start;
                values[count] = value;
                count++;
            }
        }

        private int endOfDigits(int start) {
            int end = start;
            while (end < length && isDigit(text[end])) {
                end++;
            }
            return end;
        }

        private int endOfLetters(int start) {
            int end = start;
            while (end < length && isLetter(text[end])) {
                end++;
            }
            return end;
        }

        private int valueOfDigits(int start, int end) {
            int value = 0;
            for (int i = start; i < end; i++) {
                if (value < HUGE) {
                    value = 10 * value + (text[i] - '0');
                }
            }
            return value;
        }

        private int kindOfWord(int start, int end) {
            if (isWord("parties", start, end)) {
                return PARTIES;
            }
            if (isWord("reason", start, end)) {
                return REASON;
            }
            if (isWord("needs", start, end)) {
                return NEEDS;
            }
            if (isWord("fees", start, end)) {
                return FEES;
            }
            if (isWord("score", start, end)) {
                return SCORE;
            }
            if (isWord("limit", start, end)) {
                return LIMIT;
            }
            if (isWord("count", start, end)) {
                return COUNT;
            }
            if (isWord("needed", start, end)) {
                return NEEDED;
            }
            if (isWord("amount", start, end)) {
                return AMOUNT;
            }
            return isWord("days", start, end) ? DAYS : UNKNOWN_WORD;
        }

        private boolean isWord(String word, int start, int end) {
            if (word.length() != end - start) {
                return false;
            }
            for (int i = 0; i < word.length(); i++) {
                if (text[start + i] != word.charAt(i)) {
                    return false;
                }
            }
            return true;
        }

        private static boolean isDigit(int sign) {
            return sign >= '0' && sign <= '9';
        }

        private static boolean isLetter(int sign) {
            return sign >= 'a' && sign <= 'z';
        }
    }

    /**
     * Reads tokens as a setup text. It goes from left to right and stops at the first error, so
     * the error that it finds is the one with the smallest offset.
     */
    private static final class SetupReader {
        static final int MAX_CODE = 99;
        static final int MAX_FILING_WINDOW = 200;
        static final int MAX_WINDOW = 60;
        static final int MAX_THRESHOLD = 9999;
        static final int MAX_TYPE = EVIDENCE_TYPES - 1;
        static final int MAX_FEE = 999;
        static final int MAX_LIMIT = 9999;
        static final int MAX_FACTOR = 9999;
        static final int MAX_DEPTH = 4;

        final Tokens tokens;
        final Setup setup;
        int at;
        boolean hasParties;
        boolean hasFees;
        boolean hasScore;
        boolean hasLimit;
        int errorCode;
        int errorOffset;

        SetupReader(Tokens text) {
            tokens = text;
            setup = new Setup();
        }

        void readAll() {
            tokens.cut();
            for (int i = 0; i < tokens.count && isFine() && kind() != Tokens.END; i++) {
                switch (kind()) {
                    case Tokens.PARTIES:
                        readParties();
                        break;
                    case Tokens.REASON:
                        readReason();
                        break;
                    case Tokens.FEES:
                        readFees();
                        break;
                    case Tokens.SCORE:
                        readScore();
                        break;
                    case Tokens.LIMIT:
                        readLimit();
                        break;
                    default:
                        fail(SYNTAX_ERROR);
                        break;
                }
                take(';');
            }
        }

        private void readParties() {
            takeOnce(hasParties);
            hasParties = true;
            setup.issuers = takeNumber(1, MAX_PARTIES);
            setup.merchants = takeNumber(1, MAX_PARTIES);
        }

        private void readReason() {
            if (setup.reasons >= MAX_REASONS) {
                fail(TOO_MANY);
                return;
            }
            step();
            int code = takeCode();
            int filing = takeNumber(0, MAX_FILING_WINDOW);
            int answer = takeNumber(1, MAX_WINDOW);
            int review = takeNumber(1, MAX_WINDOW);
            int threshold = takeNumber(0, MAX_THRESHOLD);
            int needs = 0;
            if (isFine() && kind() == Tokens.NEEDS) {
                step();
                needs = takeTypes();
            }
            setup.addReason(code, filing, answer, review, threshold, needs);
        }

        private void readFees() {
            takeOnce(hasFees);
            hasFees = true;
            setup.openingFee = takeNumber(0, MAX_FEE);
            setup.arbitrationFee = takeNumber(0, MAX_FEE);
        }

        private void readScore() {
            takeOnce(hasScore);
            hasScore = true;
            // Each token gives at most one item of the code.
            setup.formula = new Formula(tokens.count);
            readSum(0);
        }

        private void readLimit() {
            takeOnce(hasLimit);
            hasLimit = true;
            setup.limit = takeNumber(0, MAX_LIMIT);
        }

        private void readSum(int depth) {
            readTerm(depth);
            for (int i = 0; i < tokens.count && isFine() && (kind() == '+' || kind() == '-'); i++) {
                int operation = kind() == '+' ? Formula.ADD : Formula.SUBTRACT;
                step();
                readTerm(depth);
                setup.formula.add(operation);
            }
        }

        private void readTerm(int depth) {
            readFactor(depth);
            for (int i = 0; i < tokens.count && isFine() && (kind() == '*' || kind() == '/'); i++) {
                int operation = kind() == '*' ? Formula.MULTIPLY : Formula.DIVIDE;
                step();
                readFactor(depth);
                setup.formula.add(operation);
            }
        }

        private void readFactor(int depth) {
            if (!isFine()) {
                return;
            }
            switch (kind()) {
                case Tokens.NUMBER:
                    setup.formula.add(takeNumber(0, MAX_FACTOR));
                    break;
                case Tokens.COUNT:
                    takeName(Formula.COUNT);
                    break;
                case Tokens.NEEDED:
                    takeName(Formula.NEEDED);
                    break;
                case Tokens.AMOUNT:
                    takeName(Formula.AMOUNT);
                    break;
                case Tokens.DAYS:
                    takeName(Formula.DAYS);
                    break;
                case '(':
                    if (depth >= MAX_DEPTH) {
                        fail(TOO_DEEP);
                        break;
                    }
                    step();
                    readSum(depth + 1);
                    take(')');
                    break;
                default:
                    fail(SYNTAX_ERROR);
                    break;
            }
        }

        private void takeName(int item) {
            setup.formula.add(item);
            step();
        }

        private void takeOnce(boolean isThereAlready) {
            if (isThereAlready) {
                fail(SYNTAX_ERROR);
                return;
            }
            step();
        }

        private void take(int sign) {
            if (isFine() && kind() == sign) {
                step();
            } else {
                fail(SYNTAX_ERROR);
            }
        }

        private int takeCode() {
            if (isFine() && kind() == Tokens.NUMBER && setup.reasonWithCode(value()) != NONE) {
                fail(OUT_OF_RANGE);
            }
            return takeNumber(0, MAX_CODE);
        }

        private int takeTypes() {
            int set = 1 << takeNumber(0, MAX_TYPE);
            // Behind all the types there are, one more is twice there, so the bound ends no list.
            for (int i = 0; i <= MAX_TYPE && isFine() && kind() == Tokens.NUMBER; i++) {
                if (value() <= MAX_TYPE && (set >> value() & 1) != 0) {
                    fail(OUT_OF_RANGE);
                }
                set |= 1 << takeNumber(0, MAX_TYPE);
            }
            return set;
        }

        private int takeNumber(int low, int high) {
            if (!isFine()) {
                return low;
            }
            if (kind() != Tokens.NUMBER) {
                fail(SYNTAX_ERROR);
                return low;
            }
            int number = value();
            if (number < low || number > high) {
                fail(OUT_OF_RANGE);
                return low;
            }
            step();
            return number;
        }

        private boolean isFine() {
            return errorCode == 0;
        }

        /** Notes an error at the present token, unless an earlier one is noted. */
        private void fail(int code) {
            if (errorCode == 0 && at < tokens.starts.length) {
                errorCode = code;
                errorOffset = tokens.starts[at];
            }
        }

        private int kind() {
            return at < tokens.kinds.length ? tokens.kinds[at] : Tokens.END;
        }

        private int value() {
            return at < tokens.values.length ? tokens.values[at] : 0;
        }

        private void step() {
            if (at + 1 < tokens.count) {
                at++;
            }
        }
    }

    /** The score expression, kept with each operation behind its two operands. */
    private static final class Formula {
        // A number is its own item, so the other items are negative.
        static final int COUNT = -1;
        static final int NEEDED = -2;
        static final int AMOUNT = -3;
        static final int DAYS = -4;
        static final int ADD = -5;
        static final int SUBTRACT = -6;
        static final int MULTIPLY = -7;
        static final int DIVIDE = -8;
        static final int BOUND = 1000000;

        // Two operands wait at each of 4 depths of parentheses and outside them, and one is read.
        static final int STACK_SIZE = 11;

        final int[] items;
        final int[] stack;
        int length;

        Formula(int capacity) {
            items = new int[Math.max(0, capacity)];
            stack = new int[STACK_SIZE];
        }

        void add(int item) {
            if (length < items.length) {
                items[length] = item;
                length++;
            }
        }

        int valueFor(int count, int needed, int amount, int days) {
            int top = 0;
            for (int i = 0; i < length; i++) {
                int item = items[i];
                if (item > ADD) {
                    if (top < STACK_SIZE) {
                        stack[top] = operand(item, count, needed, amount, days);
                        top++;
                    }
                } else if (top >= 2) {
                    top--;
                    stack[top - 1] = result(item, stack[top - 1], stack[top]);
                }
            }
            return top > 0 ? stack[top - 1] : 0;
        }

        private static int operand(int item, int count, int needed, int amount, int days) {
            switch (item) {
                case COUNT:
                    return count;
                case NEEDED:
                    return needed;
                case AMOUNT:
                    return amount;
                case DAYS:
                    return days;
                default:
                    return item;
            }
        }

        private static int result(int operation, long left, long right) {
            long value;
            switch (operation) {
                case ADD:
                    value = left + right;
                    break;
                case SUBTRACT:
                    value = left - right;
                    break;
                case MULTIPLY:
                    value = left * right;
                    break;
                default:
                    value = right == 0 ? 0 : left / right;
                    break;
            }
            return (int) Math.max(-BOUND, Math.min(BOUND, value));
        }
    }

    /** What a setup text says. It does not change once it has been read. */
    private static final class Setup {
        static final int USUAL_LIMIT = 100;

        int issuers;
        int merchants;
        int openingFee;
        int arbitrationFee;
        int limit;
        Formula formula;
        int reasons;
        final int[] codes;
        final int[] filingWindows;
        final int[] answerWindows;
        final int[] reviewWindows;
        final int[] thresholds;
        final int[] needs;

        Setup() {
            issuers = 1;
            merchants = 1;
            limit = USUAL_LIMIT;
            formula = new Formula(1);
            formula.add(Formula.COUNT);
            codes = new int[MAX_REASONS];
            filingWindows = new int[MAX_REASONS];
            answerWindows = new int[MAX_REASONS];
            reviewWindows = new int[MAX_REASONS];
            thresholds = new int[MAX_REASONS];
            needs = new int[MAX_REASONS];
        }

        void addReason(int code, int filing, int answer, int review, int threshold, int needed) {
            if (reasons < MAX_REASONS) {
                codes[reasons] = code;
                filingWindows[reasons] = filing;
                answerWindows[reasons] = answer;
                reviewWindows[reasons] = review;
                thresholds[reasons] = threshold;
                needs[reasons] = needed;
                reasons++;
            }
        }

        int reasonWithCode(int code) {
            for (int i = 0; i < reasons; i++) {
                if (codes[i] == code) {
                    return i;
                }
            }
            return NONE;
        }
    }

    /**
     * All data at one time. The callers have looked at the indexes that they give: a party, a
     * purchase, a reason or a dispute that is named here is there.
     */
    private static final class Book {
        static final int ARBITRATION_DAYS = 10;
        static final int RATE_DAYS = 30;

        Setup setup;
        int day;
        final int[] issuerAccounts;
        final int[] merchantAccounts;
        int networkMoney;
        int purchases;
        final int[] purchaseIssuer;
        final int[] purchaseMerchant;
        final int[] purchaseAmount;
        final int[] purchaseDay;
        int disputes;
        final int[] disputePurchase;
        final int[] disputeReason;
        final int[] disputeAmount;
        final int[] disputeDay;
        final int[] disputeEvidence;
        final int[] disputeState;
        final int[] disputeDeadline;

        Book(Setup first) {
            setup = first;
            issuerAccounts = new int[MAX_PARTIES];
            merchantAccounts = new int[MAX_PARTIES];
            purchaseIssuer = new int[MAX_PURCHASES];
            purchaseMerchant = new int[MAX_PURCHASES];
            purchaseAmount = new int[MAX_PURCHASES];
            purchaseDay = new int[MAX_PURCHASES];
            disputePurchase = new int[MAX_DISPUTES];
            disputeReason = new int[MAX_DISPUTES];
            disputeAmount = new int[MAX_DISPUTES];
            disputeDay = new int[MAX_DISPUTES];
            disputeEvidence = new int[MAX_DISPUTES];
            disputeState = new int[MAX_DISPUTES];
            disputeDeadline = new int[MAX_DISPUTES];
        }

        void startAnew(Setup fresh) {
            setup = fresh;
            day = 0;
            Arrays.fill(issuerAccounts, 0);
            Arrays.fill(merchantAccounts, 0);
            networkMoney = 0;
            purchases = 0;
            disputes = 0;
        }

        void copyFrom(Book other) {
            setup = other.setup;
            day = other.day;
            networkMoney = other.networkMoney;
            purchases = other.purchases;
            disputes = other.disputes;
            System.arraycopy(other.issuerAccounts, 0, issuerAccounts, 0, MAX_PARTIES);
            System.arraycopy(other.merchantAccounts, 0, merchantAccounts, 0, MAX_PARTIES);
            System.arraycopy(other.purchaseIssuer, 0, purchaseIssuer, 0, MAX_PURCHASES);
            System.arraycopy(other.purchaseMerchant, 0, purchaseMerchant, 0, MAX_PURCHASES);
            System.arraycopy(other.purchaseAmount, 0, purchaseAmount, 0, MAX_PURCHASES);
            System.arraycopy(other.purchaseDay, 0, purchaseDay, 0, MAX_PURCHASES);
            System.arraycopy(other.disputePurchase, 0, disputePurchase, 0, MAX_DISPUTES);
            System.arraycopy(other.disputeReason, 0, disputeReason, 0, MAX_DISPUTES);
            System.arraycopy(other.disputeAmount, 0, disputeAmount, 0, MAX_DISPUTES);
            System.arraycopy(other.disputeDay, 0, disputeDay, 0, MAX_DISPUTES);
            System.arraycopy(other.disputeEvidence, 0, disputeEvidence, 0, MAX_DISPUTES);
            System.arraycopy(other.disputeState, 0, disputeState, 0, MAX_DISPUTES);
            System.arraycopy(other.disputeDeadline, 0, disputeDeadline, 0, MAX_DISPUTES);
        }

        int addPurchase(int issuer, int merchant, int amount) {
            int index = purchases;
            if (index < MAX_PURCHASES) {
                purchaseIssuer[index] = issuer;
                purchaseMerchant[index] = merchant;
                purchaseAmount[index] = amount;
                purchaseDay[index] = day;
                purchases++;
                moveMoney(index, amount, 0);
            }
            return index;
        }

        int addDispute(int purchase, int reason, int amount) {
            int index = disputes;
            if (index < MAX_DISPUTES) {
                disputePurchase[index] = purchase;
                disputeReason[index] = reason;
                disputeAmount[index] = amount;
                disputeDay[index] = day;
                disputeEvidence[index] = 0;
                disputeState[index] = FILED;
                disputeDeadline[index] = day + setup.answerWindows[reason];
                disputes++;
                moveMoney(purchase, -amount - setup.openingFee, setup.openingFee);
            }
            return index;
        }

        void toRepresented(int dispute, int evidence) {
            disputeEvidence[dispute] |= evidence;
            disputeState[dispute] = REPRESENTED;
            disputeDeadline[dispute] = day + setup.reviewWindows[disputeReason[dispute]];
            moveMoney(disputePurchase[dispute], disputeAmount[dispute], 0);
        }

        void toEscalated(int dispute) {
            disputeState[dispute] = ESCALATED;
            disputeDeadline[dispute] = day + setup.answerWindows[disputeReason[dispute]];
            moveMoney(disputePurchase[dispute], -disputeAmount[dispute], 0);
        }

        void toArbitration(int dispute, int evidence) {
            disputeEvidence[dispute] |= evidence;
            disputeState[dispute] = ARBITRATION;
            disputeDeadline[dispute] = day + ARBITRATION_DAYS;
        }

        void finish(int dispute, int outcome) {
            int fee = disputeState[dispute] == ARBITRATION ? setup.arbitrationFee : 0;
            moveMoney(disputePurchase[dispute], merchantGain(dispute, outcome), fee);
            disputeState[dispute] = outcome;
            disputeDeadline[dispute] = NONE;
        }

        /** Lets today end; returns how many disputes became final. */
        int endDay() {
            day++;
            int finished = 0;
            for (int i = 0; i < disputes; i++) {
                if (!isFinal(i) && disputeDeadline[i] < day) {
                    finish(i, idleOutcome(i));
                    finished++;
                }
            }
            return finished;
        }

        /** How an open dispute ends if the one whose turn it is gives up or lets the time run out. */
        int idleOutcome(int dispute) {
            switch (disputeState[dispute]) {
                case REPRESENTED:
                    return MERCHANT_WON;
                case ARBITRATION:
                    return convinces(dispute, disputeEvidence[dispute]) ? MERCHANT_WON : ISSUER_WON;
                default:
                    return ISSUER_WON;
            }
        }

        boolean isFinal(int dispute) {
            return disputeState[dispute] == ISSUER_WON || disputeState[dispute] == MERCHANT_WON;
        }

        boolean merchantHolds(int dispute) {
            return disputeState[dispute] == REPRESENTED || disputeState[dispute] == MERCHANT_WON;
        }

        boolean isTooLate(int purchase, int reason) {
            return day > purchaseDay[purchase] + setup.filingWindows[reason];
        }

        int disputedAmount(int purchase) {
            int sum = 0;
            for (int i = 0; i < disputes; i++) {
                if (disputePurchase[i] == purchase && disputeState[i] != MERCHANT_WON) {
                    sum += disputeAmount[i];
                }
            }
            return sum;
        }

        int ownScore(int dispute) {
            return scoreWith(dispute, disputeEvidence[dispute]);
        }

        boolean convinces(int dispute, int evidence) {
            int reason = disputeReason[dispute];
            int missing = setup.needs[reason] & ~evidence;
            return missing == 0 && scoreWith(dispute, evidence) >= setup.thresholds[reason];
        }

        /**
         * The smallest convincing set of evidence. All sets that hold what is needed and have the
         * same number of types have the same score, so one of each number is enough to try: the
         * one whose further types are the lowest.
         */
        int leastConvincing(int dispute) {
            int set = disputeEvidence[dispute] | setup.needs[disputeReason[dispute]];
            for (int i = 0; i <= EVIDENCE_TYPES && set <= ALL_EVIDENCE; i++) {
                if (convinces(dispute, set)) {
                    return set;
                }
                set |= set + 1;
            }
            return NONE;
        }

        int earliestDeadline() {
            int earliest = NONE;
            for (int i = 0; i < disputes; i++) {
                if (!isFinal(i) && (earliest == NONE || disputeDeadline[i] < earliest)) {
                    earliest = disputeDeadline[i];
                }
            }
            return earliest;
        }

        int disputeRate(int merchant) {
            int bought = 0;
            for (int i = 0; i < purchases; i++) {
                if (purchaseMerchant[i] == merchant && isRecent(purchaseDay[i])) {
                    bought++;
                }
            }
            int filed = 0;
            for (int i = 0; i < disputes; i++) {
                if (merchantOf(i) == merchant && isRecent(disputeDay[i])) {
                    filed++;
                }
            }
            return bought == 0 ? 0 : filed * 1000 / bought;
        }

        int openAmount(int merchant) {
            int sum = 0;
            for (int i = 0; i < disputes; i++) {
                if (merchantOf(i) == merchant && !isFinal(i)) {
                    sum += disputeAmount[i];
                }
            }
            return sum;
        }

        int predictedAccount(int merchant) {
            int account = merchantAccounts[merchant];
            for (int i = 0; i < disputes; i++) {
                if (merchantOf(i) == merchant && !isFinal(i)) {
                    account += merchantGain(i, idleOutcome(i));
                }
            }
            return account;
        }

        private int merchantOf(int dispute) {
            return purchaseMerchant[disputePurchase[dispute]];
        }

        private boolean isRecent(int someDay) {
            return someDay > day - RATE_DAYS;
        }

        private int scoreWith(int dispute, int evidence) {
            int count = Integer.bitCount(evidence);
            int needed = Integer.bitCount(evidence & setup.needs[disputeReason[dispute]]);
            int days = disputeDay[dispute] - purchaseDay[disputePurchase[dispute]];
            return setup.formula.valueFor(count, needed, disputeAmount[dispute], days);
        }

        /** What the merchant's account gains, or loses, when an open dispute ends so. */
        private int merchantGain(int dispute, int outcome) {
            if (outcome == MERCHANT_WON) {
                int back = merchantHolds(dispute) ? 0 : disputeAmount[dispute];
                return back + setup.openingFee;
            }
            int away = merchantHolds(dispute) ? disputeAmount[dispute] : 0;
            int fee = disputeState[dispute] == ARBITRATION ? setup.arbitrationFee : 0;
            return -away - fee;
        }

        /** The issuer gives what the others gain, so the sum of all accounts stays 0. */
        private void moveMoney(int purchase, int merchantGain, int networkGain) {
            merchantAccounts[purchaseMerchant[purchase]] += merchantGain;
            networkMoney += networkGain;
            issuerAccounts[purchaseIssuer[purchase]] -= merchantGain + networkGain;
        }
    }

    /** The present book, and those before the latest changes, in a ring that is used again. */
    private static final class History {
        static final int MAX_UNDO = 8;
        static final int RING = MAX_UNDO + 1;

        final Book[] ring;
        int at;
        int undoable;

        History(Setup first) {
            ring = new Book[RING];
            for (int i = 0; i < RING; i++) {
                ring[i] = new Book(first);
            }
        }

        Book present() {
            return ring[at];
        }

        /** Keeps the present book for undo; returns a copy of it, the new present one. */
        Book beginChange() {
            Book before = ring[at];
            at = (at + 1) % RING;
            ring[at].copyFrom(before);
            undoable = Math.min(undoable + 1, MAX_UNDO);
            return ring[at];
        }

        int stepBack() {
            if (undoable == 0) {
                return NONE;
            }
            at = (at + RING - 1) % RING;
            undoable--;
            return undoable;
        }
    }
}
