import java.util.function.Supplier;
import java.util.function.ToLongFunction;

/**
 * The edges of the calls, promises 2 to 34: what is refused, in which order the refusals come, what
 * is just not refused, and that a refused call changes nothing.
 */
public final class EdgesOfCallsTest {
    private static final int SPACES = 0x20202020;

    /** What the busy object has. */
    private static final int ISSUERS = 2;
    private static final int MERCHANTS = 3;
    private static final int REASONS = 2;
    private static final int PURCHASES = 3;
    private static final int DISPUTES = 6;

    public static void main(String[] args) {
        append();
        appendFull();
        loadLengths();
        counts();
        reasonOf();
        issuers();
        merchants();
        purchases();
        disputes();
        wouldWinSets();
        purchaseAmounts();
        purchaseOrder();
        fileIndexes();
        fileAmounts();
        fileOrder();
        fileStateAlone();
        representSets();
        contestSets();
        setsAreAdded();
        stageOrder();
        answersOfStages();
        passDays();
        passLastDay();
        passOrder();
        passCounts();
        Due.end();
    }

    private static void append() {
        Due.sentence("Appends 20 bytes to the input buffer: the 4 bytes of each argument, the most significant byte first.");
        int[] letters = {0x6c696d69, 0x7420313b, 0x66656573, 0x20312032, 0x3b202020};
        ChargebackProcessor x = new ChargebackProcessor();
        Due.is("append", x.append(letters[0], letters[1], letters[2], letters[3], letters[4]), 20);
        Due.is("load of \"limit 1;fees 1 2;\"", x.load(20), 0);
        // A sign that no text may have, at each of the 20 places of a blank append.
        for (int place = 0; place < 20; place++) {
            for (int sign : new int[] {0x21, 0x7f, 0x80, 0xff}) {
                int[] w = {SPACES, SPACES, SPACES, SPACES, SPACES};
                int shift = 24 - 8 * (place % 4);
                w[place / 4] = w[place / 4] & ~(255 << shift) | sign << shift;
                ChargebackProcessor y = new ChargebackProcessor();
                y.append(w[0], w[1], w[2], w[3], w[4]);
                Due.is("load with the sign " + sign + " at " + place, y.load(20), Texts.SYNTAX);
                Due.is("its place", y.errorOffset(), place);
            }
        }
    }

    private static void appendFull() {
        Due.sentence("Returns the new length of the buffer; -1 if it would exceed 900 bytes, and the buffer is unchanged then.");
        ChargebackProcessor x = new ChargebackProcessor();
        for (int i = 1; i <= 45; i++) {
            Due.is("append " + i, x.append(SPACES, SPACES, SPACES, SPACES, SPACES), 20 * i);
        }
        Due.is("append 46", x.append(SPACES, SPACES, SPACES, SPACES, SPACES), -1);
        Due.is("append 47", x.append(SPACES, SPACES, SPACES, SPACES, SPACES), -1);
        String text = "parties 2 4;" + " ".repeat(880) + "limit 5;";
        Twins.refused("append to a full buffer", "-1", () -> {
            ChargebackProcessor y = new ChargebackProcessor();
            Due.append(y, text);
            return y;
        }, y -> y.append(-1, -1, -1, -1, -1));
        ChargebackProcessor z = new ChargebackProcessor();
        Due.append(z, text);
        Due.is("append", z.append(0, 0, 0, 0, 0), -1);
        Due.is("load(900)", z.load(900), 0);
        Due.is("merchantCount", z.merchantCount(), 4);
        Due.is("append to the emptied buffer", z.append(0, 0, 0, 0, 0), 20);
    }

    private static void loadLengths() {
        Due.sentence("if length is negative or greater than the length of the buffer; the buffer is unchanged then");
        Supplier<ChargebackProcessor> empty = ChargebackProcessor::new;
        Twins.refused("load(-1) of an empty buffer", Due.ARGUMENT, empty, x -> x.load(-1));
        Twins.refused("load(1) of an empty buffer", Due.ARGUMENT, empty, x -> x.load(1));
        Due.is("load(0) of an empty buffer", empty.get().load(0), 0);
        Supplier<ChargebackProcessor> busy = EdgesOfCallsTest::busy;
        for (int length : new int[] {-1, -40, Integer.MIN_VALUE, 41, 42, 60, 900, 901, Integer.MAX_VALUE}) {
            Twins.refused("load(" + length + ")", Due.ARGUMENT, busy, x -> x.load(length));
        }
        Due.is("load(0)", busy().load(0), 0);
        Due.is("load(39)", busy().load(39), 1);
        ChargebackProcessor x = busy();
        Due.is("load(40)", x.load(40), 1);
        Due.is("issuerCount", x.issuerCount(), 4);
        ChargebackProcessor y = new ChargebackProcessor();
        Due.append(y, " ".repeat(900));
        Due.argumentThrow("load(901)", () -> y.load(901));
        Due.is("load(900)", y.load(900), 0);
        Due.sentence("the number of bytes to read");
        ChargebackProcessor z = new ChargebackProcessor();
        Due.append(z, "parties 2 2;limit 1;x");
        Due.is("the first 12 bytes", z.load(12), 0);
        Due.is("issuerCount", z.issuerCount(), 2);
        Due.append(z, "parties 3 3;limit 1;x");
        Due.is("the first 11 bytes", z.load(11), Texts.SYNTAX);
        Due.is("where they end", z.errorOffset(), 11);
        Due.append(z, "limit 12345;");
        Due.is("a number that is cut", z.load(10), Texts.SYNTAX);
        Due.is("where it ends", z.errorOffset(), 10);
        Due.sentence("Returns the number of reasons; or the error code of the first error.");
        for (int reasons = 0; reasons <= 8; reasons++) {
            Texts.good(Texts.reasons(reasons), reasons);
        }
        Texts.bad("x", -2, 0);
        Texts.bad("limit 10000;", -3, 6);
        Texts.bad(Texts.reasons(9), -4, Texts.reasons(8).length());
        Texts.bad("score (((((1)))));", -5, 10);
    }

    private static void counts() {
        Due.sentence("Returns the number of reasons.");
        ChargebackProcessor y = new ChargebackProcessor();
        for (int reasons = 8; reasons >= 0; reasons--) {
            Due.load(y, Texts.reasons(reasons));
            Due.is("reasonCount", y.reasonCount(), reasons);
        }
        y.undo();
        Due.is("reasonCount after undo", y.reasonCount(), 1);
        Due.sentence("Returns the number of purchases.");
        ChargebackProcessor x = Due.with("reason 1 200 60 60 1;");
        for (int i = 0; i <= 24; i++) {
            Due.is("purchaseCount", x.purchaseCount(), i);
            Due.outcome(() -> x.purchase(0, 0, 20));
        }
        Due.is("purchaseCount at most", x.purchaseCount(), 24);
        Due.sentence("Returns the number of disputes.");
        for (int i = 0; i <= 20; i++) {
            Due.is("disputeCount", x.disputeCount(), i);
            Due.outcome(() -> x.file(0, 0, 1));
        }
        Due.is("disputeCount at most", x.disputeCount(), 20);
        x.pass(100);
        Due.is("final disputes count", x.disputeCount(), 20);
        x.undo();
        x.undo();
        Due.is("undone ones do not", x.disputeCount(), 19);
        Due.sentence("Returns the number of today.");
        Due.is("today", x.today(), 0);
        x.pass(100);
        Due.is("today after 100 days", x.today(), 100);
    }

    private static void reasonOf() {
        Due.sentence("Returns the reason with this code; -1 if there is none.");
        ChargebackProcessor x = Due.with("reason 42 1 1 1 1;reason 99 1 1 1 1;reason 1 1 1 1 1;");
        for (int code = -2; code <= 101; code++) {
            Due.is("reasonOf(" + code + ")", x.reasonOf(code), code == 42 ? 0 : code == 99 ? 1 : code == 1 ? 2 : -1);
        }
        for (int code : new int[] {Integer.MAX_VALUE, Integer.MIN_VALUE, 42 + 256, 42 - 256, 1 << 16}) {
            Due.is("reasonOf(" + code + ")", x.reasonOf(code), -1);
        }
        // The rows of a reason that is not there hold 0.
        Due.is("reasonOf(0) without reasons", new ChargebackProcessor().reasonOf(0), -1);
        Due.is("reasonOf(0) with 8 other ones", Due.with(Texts.reasons(8).replace("reason 0 ", "reason 50 ")).reasonOf(0), -1);
        Due.is("reasonOf(7) of 8", Due.with(Texts.reasons(8)).reasonOf(7), 7);
    }

    private static void issuers() {
        Due.sentence("IndexOutOfBoundsException if there is no such issuer");
        indexes("issuerAccount", ISSUERS, ChargebackProcessor::issuerAccount);
    }

    private static void merchants() {
        Due.sentence("IndexOutOfBoundsException if there is no such merchant");
        indexes("merchantAccount", MERCHANTS, ChargebackProcessor::merchantAccount);
        indexes("rate", MERCHANTS, ChargebackProcessor::rate);
        indexes("isWatched", MERCHANTS, (x, i) -> bit(x.isWatched(i)));
        indexes("exposure", MERCHANTS, ChargebackProcessor::exposure);
        indexes("settled", MERCHANTS, ChargebackProcessor::settled);
    }

    private static void purchases() {
        Due.sentence("IndexOutOfBoundsException if there is no such purchase");
        indexes("disputed", PURCHASES, ChargebackProcessor::disputed);
    }

    private static void disputes() {
        Due.sentence("IndexOutOfBoundsException if there is no such dispute");
        indexes("state", DISPUTES, ChargebackProcessor::state);
        indexes("deadline", DISPUTES, ChargebackProcessor::deadline);
        indexes("evidence", DISPUTES, ChargebackProcessor::evidence);
        indexes("isWithMerchant", DISPUTES, (x, i) -> bit(x.isWithMerchant(i)));
        indexes("score", DISPUTES, ChargebackProcessor::score);
        indexes("wouldWin", DISPUTES, (x, i) -> bit(x.wouldWin(i, 0)));
        indexes("bestEvidence", DISPUTES, ChargebackProcessor::bestEvidence);
        noIndex("represent", DISPUTES, (x, i) -> x.represent(i, 1));
        noIndex("escalate", DISPUTES, ChargebackProcessor::escalate);
        noIndex("contest", DISPUTES, (x, i) -> x.contest(i, 1));
        noIndex("accept", DISPUTES, ChargebackProcessor::accept);
    }

    interface IndexCall {
        long on(ChargebackProcessor x, int index);
    }

    private static void indexes(String what, int count, IndexCall call) {
        ChargebackProcessor x = busy();
        for (int i = 0; i < count; i++) {
            int index = i;
            Due.is(what + " " + i + " answers", Due.outcome(() -> call.on(x, index)).contains("Exception"), false);
        }
        noIndex(what, count, call);
    }

    private static void noIndex(String what, int count, IndexCall call) {
        for (int i : new int[] {-1, Integer.MIN_VALUE, count, count + 1, Integer.MAX_VALUE, 1 << 16}) {
            Twins.refused(what + " " + i, Due.INDEX, EdgesOfCallsTest::busy, x -> call.on(x, i));
        }
        // A row that an undone change has filled is not there any more.
        ChargebackProcessor y = busy();
        y.purchase(0, 0, 9);
        y.file(PURCHASES, 0, 9);
        y.undo();
        y.undo();
        Due.indexThrow(what + " " + count + " after undo", () -> call.on(y, count));
    }

    private static void wouldWinSets() {
        Due.sentence("a set of evidence, 0 to 255");
        for (int set : new int[] {0, 1, 254, 255}) {
            Due.is("wouldWin with " + set, busy().wouldWin(0, set), (set & 1) != 0 && set != 1);
        }
        Due.sentence("IllegalArgumentException if evidence is out of range");
        for (int set : new int[] {-1, 256, 257, Integer.MIN_VALUE, Integer.MAX_VALUE}) {
            Twins.refused("wouldWin with " + set, Due.ARGUMENT, EdgesOfCallsTest::busy, x -> bit(x.wouldWin(0, set)));
            Twins.refused("wouldWin of a final dispute with " + set, Due.ARGUMENT, EdgesOfCallsTest::busy, x -> bit(x.wouldWin(5, set)));
            Twins.refused("wouldWin of no dispute with " + set, Due.INDEX, EdgesOfCallsTest::busy, x -> bit(x.wouldWin(DISPUTES, set)));
        }
    }

    private static void purchaseAmounts() {
        Due.sentence("IndexOutOfBoundsException if there is no such issuer or merchant");
        noIndex("purchase by issuer", ISSUERS, (x, i) -> x.purchase(i, 0, 1));
        noIndex("purchase from merchant", MERCHANTS, (x, i) -> x.purchase(0, i, 1));
        Due.is("the last issuer and merchant", busy().purchase(ISSUERS - 1, MERCHANTS - 1, 1), PURCHASES);
        Due.sentence("IllegalArgumentException if amount is out of range");
        Due.is("amount 1", busy().purchase(0, 0, 1), PURCHASES);
        Due.is("amount 99999", busy().purchase(0, 0, 99999), PURCHASES);
        for (int amount : new int[] {0, -1, 100000, Integer.MIN_VALUE, Integer.MAX_VALUE}) {
            Twins.refused("purchase of " + amount, Due.ARGUMENT, EdgesOfCallsTest::busy, x -> x.purchase(0, 0, amount));
        }
        Due.sentence("IllegalStateException if there are 24 purchases");
        Twins.refused("purchase 24", Due.STATE, EdgesOfCallsTest::full, x -> x.purchase(0, 0, 1));
    }

    private static void purchaseOrder() {
        Due.sentence("If several exceptions apply to a call, the one that is listed first with the method is thrown.");
        order("purchase: no issuer, a wrong amount", Due.INDEX, EdgesOfCallsTest::busy, x -> x.purchase(ISSUERS, 0, 0));
        order("purchase: no merchant, a wrong amount", Due.INDEX, EdgesOfCallsTest::busy, x -> x.purchase(0, MERCHANTS, 100000));
        order("purchase: no issuer, 24 purchases", Due.INDEX, EdgesOfCallsTest::full, x -> x.purchase(-1, 0, 1));
        order("purchase: no merchant, 24 purchases", Due.INDEX, EdgesOfCallsTest::full, x -> x.purchase(0, -1, 1));
        order("purchase: all that can be wrong", Due.INDEX, EdgesOfCallsTest::full, x -> x.purchase(-1, -1, 0));
        order("purchase: a wrong amount, 24 purchases", Due.ARGUMENT, EdgesOfCallsTest::full, x -> x.purchase(0, 0, 0));
        order("purchase: a great amount, 24 purchases", Due.ARGUMENT, EdgesOfCallsTest::full, x -> x.purchase(0, 0, 100000));
    }

    private static void fileIndexes() {
        Due.sentence("IndexOutOfBoundsException if there is no such purchase or reason");
        noIndex("file of purchase", PURCHASES, (x, i) -> x.file(i, 0, 1));
        noIndex("file with reason", REASONS, (x, i) -> x.file(0, i, 1));
        Due.is("the last purchase and the last reason", busy().file(PURCHASES - 1, REASONS - 1, 1), DISPUTES);
        Twins.refused("file without purchases", Due.INDEX, () -> Due.with("reason 1 1 1 1 1;"), x -> x.file(0, 0, 1));
        Twins.refused("file without reasons", Due.INDEX, () -> {
            ChargebackProcessor x = new ChargebackProcessor();
            x.purchase(0, 0, 9);
            return x;
        }, x -> x.file(0, 0, 1));
    }

    private static void fileAmounts() {
        Due.sentence("IllegalArgumentException if amount is out of range, or if it is greater than the purchase's amount minus its disputed amount");
        for (int amount : new int[] {0, -1, 100000, Integer.MIN_VALUE, Integer.MAX_VALUE}) {
            Twins.refused("file of " + amount, Due.ARGUMENT, EdgesOfCallsTest::busy, x -> x.file(2, 0, amount));
        }
        Due.is("amount 1", busy().file(2, 0, 1), DISPUTES);
        Due.is("amount 99999", busy().file(2, 0, 99999), DISPUTES);
        // 500 of the 1000 of purchase 0 are disputed: the 100 of dispute 5 are free again.
        Due.is("all that is free", busy().file(0, 0, 500), DISPUTES);
        Twins.refused("more than is free", Due.ARGUMENT, EdgesOfCallsTest::busy, x -> x.file(0, 0, 501));
        Twins.refused("more than the purchase", Due.ARGUMENT, EdgesOfCallsTest::busy, x -> x.file(0, 0, 1001));
    }

    private static void fileOrder() {
        Due.sentence("If several exceptions apply to a call, the one that is listed first with the method is thrown.");
        order("file: no purchase, a wrong amount", Due.INDEX, EdgesOfCallsTest::busy, x -> x.file(PURCHASES, 0, 0));
        order("file: no reason, a wrong amount", Due.INDEX, EdgesOfCallsTest::busy, x -> x.file(0, REASONS, 0));
        order("file: no reason, more than is free", Due.INDEX, EdgesOfCallsTest::busy, x -> x.file(0, REASONS, 1001));
        order("file: no reason, too late", Due.INDEX, EdgesOfCallsTest::late, x -> x.file(0, -1, 1));
        order("file: no purchase, 20 disputes", Due.INDEX, EdgesOfCallsTest::full, x -> x.file(24, 0, 1));
        order("file: no reason, 20 disputes", Due.INDEX, EdgesOfCallsTest::full, x -> x.file(0, 2, 1));
        order("file: a wrong amount, too late", Due.ARGUMENT, EdgesOfCallsTest::late, x -> x.file(0, 0, 0));
        order("file: more than is free, too late", Due.ARGUMENT, EdgesOfCallsTest::late, x -> x.file(0, 0, 1001));
        order("file: a wrong amount, 20 disputes", Due.ARGUMENT, EdgesOfCallsTest::full, x -> x.file(0, 0, 100000));
        order("file: more than is free, 20 disputes", Due.ARGUMENT, EdgesOfCallsTest::full, x -> x.file(0, 0, 1000));
        order("file: all that can be wrong", Due.INDEX, EdgesOfCallsTest::full, x -> x.file(-1, -1, -1));
    }

    private static void fileStateAlone() {
        Due.sentence("IllegalStateException if it is too late, or if there are 20 disputes");
        Twins.refused("too late", Due.STATE, EdgesOfCallsTest::late, x -> x.file(0, 0, 1));
        Due.is("not too late with the longer window", late().file(0, 1, 1), DISPUTES);
        Twins.refused("20 disputes", Due.STATE, EdgesOfCallsTest::full, x -> x.file(0, 0, 1));
        Twins.refused("both", Due.STATE, () -> {
            ChargebackProcessor x = full();
            x.pass(100);
            return x;
        }, x -> x.file(0, 0, 1));
    }

    private static void representSets() {
        Due.sentence("a set of evidence, 1 to 255");
        for (int set : new int[] {1, 2, 128, 254, 255}) {
            ChargebackProcessor x = busy();
            Due.is("represent with " + set, x.represent(0, set), 2 * Integer.bitCount(set));
            Due.is("its set", x.evidence(0), set);
        }
        for (int set : new int[] {0, -1, 256, 257, Integer.MIN_VALUE, Integer.MAX_VALUE}) {
            Twins.refused("represent with " + set, Due.ARGUMENT, EdgesOfCallsTest::busy, x -> x.represent(0, set));
        }
    }

    private static void contestSets() {
        Due.sentence("a set of evidence, 0 to 255");
        for (int set : new int[] {0, 1, 254, 255}) {
            ChargebackProcessor x = busy();
            Due.is("contest with " + set, x.contest(2, set), 1 + 10 + 1);
            Due.is("its set", x.evidence(2), 2 | set);
        }
        for (int set : new int[] {-1, 256, 257, Integer.MIN_VALUE, Integer.MAX_VALUE}) {
            Twins.refused("contest with " + set, Due.ARGUMENT, EdgesOfCallsTest::busy, x -> x.contest(2, set));
        }
    }

    private static void setsAreAdded() {
        Due.sentence("The merchant contests a dispute with further evidence, which is added to the set of evidence.");
        int[][] sets = {{1, 0, 1}, {1, 1, 1}, {1, 2, 3}, {6, 3, 7}, {255, 0, 255}, {128, 127, 255}, {170, 85, 255}};
        for (int[] set : sets) {
            ChargebackProcessor x = busy();
            x.represent(0, set[0]);
            x.escalate(0);
            Due.is("the set stays", x.evidence(0), set[0]);
            x.contest(0, set[1]);
            Due.is(set[0] + " and " + set[1], x.evidence(0), set[2]);
        }
    }

    private static void stageOrder() {
        Due.sentence("If several exceptions apply to a call, the one that is listed first with the method is thrown.");
        order("represent: no dispute, a wrong set", Due.INDEX, EdgesOfCallsTest::busy, x -> x.represent(DISPUTES, 0));
        order("contest: no dispute, a wrong set", Due.INDEX, EdgesOfCallsTest::busy, x -> x.contest(-1, 256));
        for (int dispute = 1; dispute < DISPUTES; dispute++) {
            int index = dispute;
            order("represent: a wrong set and state " + dispute, Due.ARGUMENT, EdgesOfCallsTest::busy, x -> x.represent(index, 0));
        }
        for (int dispute : new int[] {0, 1, 3, 4, 5}) {
            order("contest: a wrong set and state " + dispute, Due.ARGUMENT, EdgesOfCallsTest::busy, x -> x.contest(dispute, -1));
        }
    }

    private static void answersOfStages() {
        Due.sentence("Returns the score of the dispute then.");
        ChargebackProcessor x = busy();
        Due.is("represent", x.represent(0, 7), 6);
        Due.is("the score", x.score(0), 6);
        Due.sentence("Returns its new deadline.");
        Due.is("escalate", x.escalate(0), 1 + 20);
        Due.is("the deadline", x.deadline(0), 21);
        Due.sentence("Returns the day on which it will be decided: its new deadline plus 1.");
        x.pass(3);
        Due.is("contest", x.contest(0, 0), 4 + 11);
        Due.is("the deadline", x.deadline(0), 14);
        x.pass(10);
        Due.is("it is not decided on its deadline", x.state(0), ChargebackProcessor.ARBITRATION);
        x.pass(1);
        Due.is("it is decided on the day", x.state(0), ChargebackProcessor.MERCHANT_WON);
        Due.is("the day", x.today(), 15);
        Due.sentence("Returns its deadline; -1 if it is final.");
        ChargebackProcessor y = busy();
        int[] deadlines = {21, 31, 21, 11, -1, -1};
        for (int i = 0; i < DISPUTES; i++) {
            Due.is("state " + i, y.state(i), i);
            Due.is("deadline in state " + i, y.deadline(i), deadlines[i]);
        }
        Due.sentence("Returns its new state.");
        Due.is("accept of a FILED one", busy().accept(0), ChargebackProcessor.ISSUER_WON);
        Due.is("accept of a REPRESENTED one", busy().accept(1), ChargebackProcessor.MERCHANT_WON);
        Due.is("accept of an ESCALATED one", busy().accept(2), ChargebackProcessor.ISSUER_WON);
        Due.sentence("IllegalStateException if it is in ARBITRATION or final");
        for (int dispute = 3; dispute < DISPUTES; dispute++) {
            int index = dispute;
            Twins.refused("accept in state " + dispute, Due.STATE, EdgesOfCallsTest::busy, z -> z.accept(index));
        }
        Due.sentence("IllegalStateException if it is not FILED");
        for (int dispute = 1; dispute < DISPUTES; dispute++) {
            int index = dispute;
            Twins.refused("represent in state " + dispute, Due.STATE, EdgesOfCallsTest::busy, z -> z.represent(index, 1));
        }
        Due.sentence("IllegalStateException if it is not REPRESENTED");
        for (int dispute : new int[] {0, 2, 3, 4, 5}) {
            Twins.refused("escalate in state " + dispute, Due.STATE, EdgesOfCallsTest::busy, z -> z.escalate(dispute));
        }
        Due.sentence("IllegalStateException if it is not ESCALATED");
        for (int dispute : new int[] {0, 1, 3, 4, 5}) {
            Twins.refused("contest in state " + dispute, Due.STATE, EdgesOfCallsTest::busy, z -> z.contest(dispute, 0));
        }
    }

    private static void passDays() {
        Due.sentence("IllegalArgumentException if days is out of range");
        for (int days : new int[] {0, -1, 101, 102, Integer.MIN_VALUE, Integer.MAX_VALUE}) {
            Twins.refused("pass(" + days + ")", Due.ARGUMENT, EdgesOfCallsTest::busy, x -> x.pass(days));
        }
        for (int days : new int[] {1, 2, 99, 100}) {
            ChargebackProcessor x = busy();
            x.pass(days);
            Due.is("today after pass(" + days + ")", x.today(), 1 + days);
        }
    }

    private static void passLastDay() {
        Due.sentence("IllegalStateException if today would be greater than 9999");
        Due.is("to day 9999 by 100", onDay(9899).pass(100), 0);
        Due.is("to day 9999 by 1", onDay(9998).pass(1), 0);
        Due.is("to day 9998", onDay(9899).pass(99), 0);
        Twins.refused("to day 10000 by 100", Due.STATE, () -> onDay(9900), x -> x.pass(100));
        Twins.refused("to day 10000 by 2", Due.STATE, () -> onDay(9998), x -> x.pass(2));
        Twins.refused("to day 10000 by 1", Due.STATE, () -> onDay(9999), x -> x.pass(1));
        Twins.refused("to day 10099", Due.STATE, () -> onDay(9999), x -> x.pass(100));
        ChargebackProcessor x = onDay(9999);
        Due.is("a purchase on the last day", x.purchase(0, 0, 9), 1);
        Due.is("a dispute on the last day", x.file(1, 0, 9), 0);
        Due.is("its deadline", x.deadline(0), 9999 + 60);
        x.represent(0, 1);
        Due.is("a later deadline", x.escalate(0), 9999 + 60);
        Due.is("a decision that does not come", x.contest(0, 1), 9999 + 11);
        x.undo();
        Due.is("but accept can be called", x.accept(0), ChargebackProcessor.ISSUER_WON);
    }

    private static void passOrder() {
        Due.sentence("If several exceptions apply to a call, the one that is listed first with the method is thrown.");
        order("pass(0) on day 9999", Due.ARGUMENT, () -> onDay(9999), x -> x.pass(0));
        order("pass(101) on day 9999", Due.ARGUMENT, () -> onDay(9999), x -> x.pass(101));
        order("pass(101) on day 9899", Due.ARGUMENT, () -> onDay(9899), x -> x.pass(101));
        order("pass(the greatest) on day 9999", Due.ARGUMENT, () -> onDay(9999), x -> x.pass(Integer.MAX_VALUE));
    }

    private static void passCounts() {
        Due.sentence("Returns the number of disputes that became final.");
        Due.is("none", busy().pass(10), 0);
        Due.is("the arbitration", busy().pass(11), 1);
        Due.is("the arbitration, until the next deadline", busy().pass(20), 1);
        Due.is("and the answer windows", busy().pass(21), 3);
        Due.is("until the review window", busy().pass(30), 3);
        Due.is("all", busy().pass(31), 4);
        Due.is("all, with days to spare", busy().pass(100), 4);
        ChargebackProcessor x = full();
        Due.is("20 at once", x.pass(100), 20);
        Due.is("and none again", x.pass(100), 0);
    }

    private static void order(String what, String due, Supplier<ChargebackProcessor> maker, ToLongFunction<ChargebackProcessor> call) {
        Twins.refused(what, due, maker, call);
    }

    private static long bit(boolean answer) {
        return answer ? 1 : 0;
    }

    /** A dispute of 100 in each state, its index being the state, on day 1; an error's offset; a text that waits. */
    private static ChargebackProcessor busy() {
        ChargebackProcessor x = Due.with("parties 2 3;fees 15 50;reason 1 30 20 30 3 needs 0;reason 2 60 20 9 0;score count*2;limit 300;");
        Due.load(x, "limit x;");
        x.purchase(0, 0, 1000);
        x.purchase(1, 2, 500);
        x.purchase(1, 1, 99999);
        x.pass(1);
        for (int i = 0; i < DISPUTES; i++) {
            x.file(0, 0, 100);
        }
        for (int i : new int[] {1, 2, 3, 5}) {
            x.represent(i, i);
        }
        x.escalate(2);
        x.escalate(3);
        x.contest(3, 4);
        x.accept(4);
        x.accept(5);
        Due.append(x, "parties 4 1;reason 8 9 9 9 9;  limit 7;");
        return x;
    }

    /** A day after the window of reason 0 for the purchases of the busy object. */
    private static ChargebackProcessor late() {
        ChargebackProcessor x = busy();
        x.pass(30);
        return x;
    }

    /** 24 purchases of 10 and 20 disputes of 1. */
    private static ChargebackProcessor full() {
        ChargebackProcessor x = Due.with("parties 2 3;fees 1 2;reason 1 60 20 9 3;reason 2 60 30 9 3;");
        for (int i = 0; i < 24; i++) {
            x.purchase(i % 2, i % 3, 10);
        }
        for (int i = 0; i < 20; i++) {
            x.file(i, i % 2, 1);
        }
        return x;
    }

    /** A purchase of day 0, and so many days passed. */
    private static ChargebackProcessor onDay(int day) {
        ChargebackProcessor x = Due.with("reason 1 60 60 60 3;");
        x.purchase(0, 0, 10);
        for (int left = day; left > 0; left -= 100) {
            x.pass(Math.min(left, 100));
        }
        return x;
    }
}
