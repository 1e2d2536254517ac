import java.util.function.LongSupplier;

/**
 * The document's promises in their order, 1 to 36: for each one what it says, on one story whose
 * answers are worked out by hand.
 */
public final class PromisesTest {
    private static final int SPACES = 0x20202020;
    private static final String TEXT = "parties 2 3; reason 10 30 5 4 6 needs 1 3; reason 20 0 1 60 0;"
            + " fees 15 40; score count * 2 + needed - days; limit 400;";
    private static final int NEEDED = 1 << 1 | 1 << 3;
    // Together with the evidence of type 1 that is shown earlier, just enough to win.
    private static final int ENOUGH = 1 << 3 | 1 << 0 | 1 << 7;

    private PromisesTest() {
    }

    public static void main(String[] args) {
        promise1();
        promise2();
        promise3();
        promise4();
        promises5To7();
        promises8To10();
        promise11();
        promises12To14();
        promise15();
        promises16To19();
        promise20();
        promise21();
        promise22();
        promise23();
        promises24And25();
        promise26();
        promise27();
        promise28();
        promise29();
        promise30();
        promise31();
        promise32();
        promise33();
        promise34();
        promise35();
        promise36();
        Due.end();
    }

    /** Day 0: issuer 1 has bought for 1000 at merchant 2. */
    private static ChargebackProcessor bought() {
        ChargebackProcessor x = Due.with(TEXT);
        x.purchase(1, 2, 1000);
        return x;
    }

    /** Day 3: 600 of it are disputed for reason 0. */
    private static ChargebackProcessor filed() {
        ChargebackProcessor x = bought();
        x.pass(3);
        x.file(0, 0, 600);
        return x;
    }

    /** Day 5: the merchant has shown evidence of type 1. */
    private static ChargebackProcessor represented() {
        ChargebackProcessor x = filed();
        x.pass(2);
        x.represent(0, 1 << 1);
        return x;
    }

    /** Day 8. */
    private static ChargebackProcessor escalated() {
        ChargebackProcessor x = represented();
        x.pass(3);
        x.escalate(0);
        return x;
    }

    /** Day 9: the merchant has added the evidence given here. */
    private static ChargebackProcessor contested(int evidence) {
        ChargebackProcessor x = escalated();
        x.pass(1);
        x.contest(0, evidence);
        return x;
    }

    /** Day 20: the arbitration is decided. */
    private static ChargebackProcessor decided(int evidence) {
        ChargebackProcessor x = contested(evidence);
        x.pass(11);
        return x;
    }

    private static void accounts(String when, ChargebackProcessor x, int issuer, int merchant, int network) {
        Due.is("issuerAccount(1) " + when, x.issuerAccount(1), issuer);
        Due.is("merchantAccount(2) " + when, x.merchantAccount(2), merchant);
        Due.is("networkAccount() " + when, x.networkAccount(), network);
        Due.is("the sum " + when, issuer + merchant + network, 0);
        Due.is("issuerAccount(0) " + when, x.issuerAccount(0), 0);
        Due.is("merchantAccount(0) " + when, x.merchantAccount(0), 0);
        Due.is("merchantAccount(1) " + when, x.merchantAccount(1), 0);
    }

    private static void noDispute(String what, LongSupplier before, LongSupplier behind) {
        Due.indexThrow(what + " with dispute -1", before);
        Due.indexThrow(what + " with dispute 1", behind);
    }

    private static void promise1() {
        Due.sentence("Creates an object as described above, with an empty input buffer.");
        ChargebackProcessor x = new ChargebackProcessor();
        Due.argumentThrow("load(1) of the empty buffer", () -> x.load(1));
        Due.is("the first append", x.append(SPACES, SPACES, SPACES, SPACES, SPACES), 20);
        Due.is("errorOffset()", x.errorOffset(), -1);
        ChargebackProcessor y = new ChargebackProcessor();
        Due.is("load of the empty text", y.load(0), 0);
        Due.same("what is seen of a new object", Twins.seen(x), Twins.seen(y));
        Due.is("undo() of a new object", x.undo(), -1);
    }

    private static void promise2() {
        Due.sentence("Appends 20 bytes to the input buffer: the 4 bytes of each argument, the most significant byte first.");
        for (int at = 0; at < 20; at++) {
            // One wrong byte among spaces shows where it has come to stand.
            int[] words = {SPACES, SPACES, SPACES, SPACES, SPACES};
            words[at / 4] += ('%' - ' ') << 24 - at % 4 * 8;
            ChargebackProcessor x = new ChargebackProcessor();
            Due.is("append", x.append(words[0], words[1], words[2], words[3], words[4]), 20);
            Due.is("load with a wrong byte at " + at, x.load(20), ChargebackProcessor.SYNTAX_ERROR);
            Due.is("errorOffset()", x.errorOffset(), at);
        }
        Due.sentence("Returns the new length of the buffer; -1 if it would exceed 900 bytes, and the buffer is unchanged then.");
        ChargebackProcessor x = new ChargebackProcessor();
        for (int length = 20; length <= 900; length += 20) {
            Due.is("append to " + (length - 20) + " bytes", x.append(SPACES, SPACES, SPACES, SPACES, SPACES), length);
        }
        Due.is("append to 900 bytes", x.append(0, 0, 0, 0, 0), -1);
        Due.is("load of the 900 spaces", x.load(900), 0);
    }

    private static void promise3() {
        Due.sentence("Reads the first bytes of the input buffer as a setup text and replaces all data by it."
                + " Today is day 0 then, all accounts are 0, and there are no purchases and disputes.");
        ChargebackProcessor x = decided(ENOUGH);
        Due.append(x, "parties 2 3; reason 7 1 1 1 1; %");
        Due.is("load", x.load(30), 1);
        Due.is("today()", x.today(), 0);
        Due.is("purchaseCount()", x.purchaseCount(), 0);
        Due.is("disputeCount()", x.disputeCount(), 0);
        Due.is("reasonOf(7)", x.reasonOf(7), 0);
        Due.is("reasonOf(10)", x.reasonOf(10), -1);
        accounts("after load", x, 0, 0, 0);

        Due.sentence("The input buffer is empty afterwards, also if the text has an error. An error leaves all other data unchanged.");
        Due.argumentThrow("load(1) behind a load", () -> x.load(1));
        long before = filed().checksum();
        ChargebackProcessor y = filed();
        Due.is("load of a wrong text", Due.load(y, "parties 1 1; limit 3; x"), ChargebackProcessor.SYNTAX_ERROR);
        Due.argumentThrow("load(1) behind a wrong text", () -> y.load(1));
        Due.is("checksum() behind a wrong text", y.checksum(), before);
        Due.is("isWatched(2) behind a wrong text", y.isWatched(2), true);

        Due.sentence("Returns the number of reasons; or the error code of the first error.");
        Due.is("load of TEXT", Due.load(new ChargebackProcessor(), TEXT), 2);
        Texts.bad("limit 5", ChargebackProcessor.SYNTAX_ERROR, 7);
        Texts.bad("limit 10000;", ChargebackProcessor.OUT_OF_RANGE, 6);
        Texts.bad(Texts.reasons(9), ChargebackProcessor.TOO_MANY, Texts.reasons(8).length());
        Texts.bad("score (((((1)))));", ChargebackProcessor.TOO_DEEP, 10);

        Due.sentence("if length is negative or greater than the length of the buffer; the buffer is unchanged then");
        int length = Due.append(y, "reason 5 1 1 1 1;");
        Due.argumentThrow("load(-1)", () -> y.load(-1));
        Due.argumentThrow("load(21)", () -> y.load(21));
        Due.is("load of what is there", y.load(length), 1);
    }

    private static void promise4() {
        Due.sentence("Returns the offset of the error found by the latest call of load that did not throw; -1 if it found none or if there was no such call.");
        ChargebackProcessor x = new ChargebackProcessor();
        Due.is("errorOffset() before a load", x.errorOffset(), -1);
        Due.load(x, "limit 5; fees 1 x;");
        Due.is("errorOffset() of a wrong text", x.errorOffset(), 16);
        Due.argumentThrow("load(1)", () -> x.load(1));
        Due.is("errorOffset() behind a load that threw", x.errorOffset(), 16);
        Due.load(x, "limit 5;");
        Due.is("errorOffset() of a right text", x.errorOffset(), -1);
    }

    private static void promises5To7() {
        ChargebackProcessor x = Due.with(TEXT);
        Due.sentence("Returns the number of issuers.");
        Due.is("issuerCount()", x.issuerCount(), 2);
        Due.sentence("Returns the number of merchants.");
        Due.is("merchantCount()", x.merchantCount(), 3);
        Due.sentence("Returns the number of reasons.");
        Due.is("reasonCount()", x.reasonCount(), 2);
        x.undo();
        Due.is("issuerCount() of a new object", x.issuerCount(), 1);
        Due.is("merchantCount() of a new object", x.merchantCount(), 1);
        Due.is("reasonCount() of a new object", x.reasonCount(), 0);
    }

    private static void promises8To10() {
        ChargebackProcessor x = bought();
        x.purchase(0, 0, 1);
        Due.sentence("Returns the number of purchases.");
        Due.is("purchaseCount()", x.purchaseCount(), 2);
        Due.sentence("Returns the number of disputes.");
        Due.is("disputeCount() without one", x.disputeCount(), 0);
        Due.is("disputeCount() of a final one", decided(0).disputeCount(), 1);
        Due.sentence("Returns the number of today.");
        Due.is("today() at first", x.today(), 0);
        x.pass(3);
        Due.is("today() after 3 days", x.today(), 3);
    }

    private static void promise11() {
        Due.sentence("Returns the reason with this code; -1 if there is none.");
        ChargebackProcessor x = Due.with(TEXT);
        Due.is("reasonOf(10)", x.reasonOf(10), 0);
        Due.is("reasonOf(20)", x.reasonOf(20), 1);
        for (int code : new int[] {0, 1, 9, 11, 19, 21, 99, 100, -10, Integer.MIN_VALUE, Integer.MAX_VALUE}) {
            Due.is("reasonOf(" + code + ")", x.reasonOf(code), -1);
        }
    }

    private static void promises12To14() {
        Due.sentence("When it is made, the issuer pays the amount to the merchant.");
        accounts("when it is bought", bought(), -1000, 1000, 0);
        Due.sentence("The disputed money: when a dispute is filed, the merchant pays its amount to the issuer, and the opening fee to the network.");
        accounts("when it is filed", filed(), -400, 385, 15);
        Due.sentence("When it is represented, the issuer pays the amount to the merchant; when it is escalated, the merchant pays it to the issuer.");
        accounts("when it is represented", represented(), -1000, 985, 15);
        accounts("when it is escalated", escalated(), -400, 385, 15);
        accounts("when it is contested", contested(1 << 3), -400, 385, 15);
        Due.sentence("If it became final by the decision of an arbitration, the loser pays the arbitration fee to the network.");
        accounts("when the merchant has won", decided(ENOUGH), -1055, 1000, 55);
        accounts("when the issuer has won", decided(0), -400, 345, 55);
        ChargebackProcessor x = bought();
        Due.indexThrow("issuerAccount(-1)", () -> x.issuerAccount(-1));
        Due.indexThrow("issuerAccount(2)", () -> x.issuerAccount(2));
        Due.indexThrow("merchantAccount(-1)", () -> x.merchantAccount(-1));
        Due.indexThrow("merchantAccount(3)", () -> x.merchantAccount(3));
    }

    private static void promise15() {
        Due.sentence("Returns its disputed amount.");
        Due.is("disputed(0) without a dispute", bought().disputed(0), 0);
        ChargebackProcessor x = filed();
        Due.is("disputed(0) with one", x.disputed(0), 600);
        x.file(0, 0, 400);
        Due.is("disputed(0) with two", x.disputed(0), 1000);
        Due.is("disputed(0) of a dispute that the issuer has won", decided(0).disputed(0), 600);
        Due.is("disputed(0) of a dispute that the merchant has won", decided(ENOUGH).disputed(0), 0);
        Due.indexThrow("disputed(-1)", () -> x.disputed(-1));
        Due.indexThrow("disputed(1)", () -> x.disputed(1));
    }

    private static void promises16To19() {
        story("filed", filed(), ChargebackProcessor.FILED, 8, 0, false);
        story("represented", represented(), ChargebackProcessor.REPRESENTED, 9, 2, true);
        story("escalated", escalated(), ChargebackProcessor.ESCALATED, 13, 2, false);
        story("contested", contested(1 << 3), ChargebackProcessor.ARBITRATION, 19, NEEDED, false);
        story("won by the merchant", decided(ENOUGH), ChargebackProcessor.MERCHANT_WON, -1, NEEDED | ENOUGH, true);
        story("won by the issuer", decided(1 << 3), ChargebackProcessor.ISSUER_WON, -1, NEEDED, false);
        ChargebackProcessor x = filed();
        noDispute("state", () -> x.state(-1), () -> x.state(1));
        noDispute("deadline", () -> x.deadline(-1), () -> x.deadline(1));
        noDispute("evidence", () -> x.evidence(-1), () -> x.evidence(1));
        noDispute("isWithMerchant", () -> x.isWithMerchant(-1) ? 1 : 0, () -> x.isWithMerchant(1) ? 1 : 0);
    }

    private static void story(String when, ChargebackProcessor x, int state, int deadline, int evidence, boolean withMerchant) {
        Due.sentence("Returns its state.");
        Due.is("state(0) when it is " + when, x.state(0), state);
        Due.sentence("Returns its deadline; -1 if it is final.");
        Due.is("deadline(0) when it is " + when, x.deadline(0), deadline);
        Due.sentence("Returns its set of evidence.");
        Due.is("evidence(0) when it is " + when, x.evidence(0), evidence);
        Due.sentence("Returns whether the merchant has the disputed money.");
        Due.is("isWithMerchant(0) when it is " + when, x.isWithMerchant(0), withMerchant);
    }

    private static void promise20() {
        Due.sentence("Returns its score.");
        // The purchase was disputed 3 days after it was made, and the days since then do not count.
        Due.is("score(0) without evidence", filed().score(0), -3);
        Due.is("score(0) with a needed type", represented().score(0), 2 + 1 - 3);
        Due.is("score(0) with both needed types", contested(1 << 3).score(0), 4 + 2 - 3);
        Due.is("score(0) with another type", decided(1 << 7).score(0), 4 + 1 - 3);
        ChargebackProcessor x = filed();
        noDispute("score", () -> x.score(-1), () -> x.score(1));
    }

    private static void promise21() {
        Due.sentence("Tells how an arbitration of a dispute would be decided with another set of evidence (whatever its state).");
        // With n types, both needed ones among them, the score is 2n + 2 - 3: 6 is reached with 4.
        for (ChargebackProcessor x : new ChargebackProcessor[] {filed(), represented(), escalated(), contested(0), decided(0), decided(ENOUGH)}) {
            Due.is("wouldWin(0, 0)", x.wouldWin(0, 0), false);
            Due.is("wouldWin with what is needed alone", x.wouldWin(0, NEEDED), false);
            Due.is("wouldWin with one type more", x.wouldWin(0, NEEDED | 1), false);
            Due.is("wouldWin with two types more", x.wouldWin(0, NEEDED | 1 | 1 << 7), true);
            Due.is("wouldWin without a needed type", x.wouldWin(0, 255 - (1 << 3)), false);
            Due.is("wouldWin(0, 255)", x.wouldWin(0, 255), true);
        }
        ChargebackProcessor x = filed();
        noDispute("wouldWin", () -> x.wouldWin(-1, 256) ? 1 : 0, () -> x.wouldWin(1, -1) ? 1 : 0);
        Due.argumentThrow("wouldWin(0, -1)", () -> x.wouldWin(0, -1) ? 1 : 0);
        Due.argumentThrow("wouldWin(0, 256)", () -> x.wouldWin(0, 256) ? 1 : 0);
    }

    private static void promise22() {
        Due.sentence("Finds the smallest set of evidence that contains the dispute's set of evidence and with which the merchant would win"
                + " an arbitration: the one with the fewest types; of several, the smallest number.");
        Due.is("bestEvidence(0) without evidence", filed().bestEvidence(0), NEEDED | 1 | 1 << 2);
        Due.is("bestEvidence(0) with type 7", contested(1 << 7).bestEvidence(0), NEEDED | 1 | 1 << 7);
        Due.is("bestEvidence(0) with more than is needed", contested(255 - 4).bestEvidence(0), 255 - 4);
        Due.sentence("Returns this set; -1 if there is none.");
        ChargebackProcessor none = Due.with("reason 1 1 1 1 9;");
        none.purchase(0, 0, 1);
        none.file(0, 0, 1);
        Due.is("bestEvidence(0) if 8 types are too few", none.bestEvidence(0), -1);
        ChargebackProcessor x = filed();
        noDispute("bestEvidence", () -> x.bestEvidence(-1), () -> x.bestEvidence(1));
    }

    private static void promise23() {
        Due.sentence("Returns the smallest deadline of all disputes that are not final; -1 if all are final or if there are none.");
        Due.is("nextDeadline() without disputes", bought().nextDeadline(), -1);
        ChargebackProcessor x = filed();
        Due.is("nextDeadline() of one", x.nextDeadline(), 8);
        x.purchase(0, 0, 50);
        x.file(1, 1, 50);
        Due.is("nextDeadline() of two", x.nextDeadline(), 4);
        x.accept(1);
        Due.is("nextDeadline() when the nearer one is final", x.nextDeadline(), 8);
        x.accept(0);
        Due.is("nextDeadline() when all are final", x.nextDeadline(), -1);
    }

    private static void promises24And25() {
        ChargebackProcessor x = filed();
        Due.sentence("Returns its rate.");
        Due.is("rate(2) of 1 in 1", x.rate(2), 1000);
        Due.is("rate(1) without purchases", x.rate(1), 0);
        x.purchase(0, 2, 1);
        Due.is("rate(2) of 1 in 2", x.rate(2), 500);
        Due.sentence("Returns whether it is watched.");
        Due.is("isWatched(2) with 500", x.isWatched(2), true);
        Due.is("isWatched(1) without purchases", x.isWatched(1), false);
        x.purchase(0, 2, 1);
        Due.is("rate(2) of 1 in 3", x.rate(2), 333);
        Due.is("isWatched(2) with 333", x.isWatched(2), false);
        // The first purchase, of day 0, is too old on day 30; those of day 3 and the dispute are not.
        x.pass(27);
        Due.is("rate(2) of 1 in 2 on day 30", x.rate(2), 500);
        x.pass(3);
        Due.is("rate(2) on day 33", x.rate(2), 0);
        Due.indexThrow("rate(-1)", () -> x.rate(-1));
        Due.indexThrow("rate(3)", () -> x.rate(3));
        Due.indexThrow("isWatched(-1)", () -> x.isWatched(-1) ? 1 : 0);
        Due.indexThrow("isWatched(3)", () -> x.isWatched(3) ? 1 : 0);
    }

    private static void promise26() {
        Due.sentence("Returns the sum of the amounts of the disputes with purchases of this merchant that are not final.");
        ChargebackProcessor x = filed();
        x.file(0, 0, 150);
        Due.is("exposure(2)", x.exposure(2), 750);
        Due.is("exposure(0)", x.exposure(0), 0);
        x.accept(0);
        Due.is("exposure(2) when one is final", x.exposure(2), 150);
        Due.is("exposure(2) in arbitration", contested(0).exposure(2), 600);
        Due.indexThrow("exposure(-1)", () -> x.exposure(-1));
        Due.indexThrow("exposure(3)", () -> x.exposure(3));
    }

    private static void promise27() {
        Due.sentence("Predicts an account: the account that a merchant would have if days passed until all disputes are final and nobody did anything else.");
        Due.is("settled(2) without a dispute", bought().settled(2), 1000);
        Due.is("settled(2) when it is filed", filed().settled(2), 385);
        Due.is("settled(2) when it is represented", represented().settled(2), 1000);
        Due.is("settled(2) when it is escalated", escalated().settled(2), 385);
        Due.is("settled(2) when the merchant will win", contested(ENOUGH).settled(2), 1000);
        Due.is("settled(2) when the issuer will win", contested(1 << 3).settled(2), 345);
        ChargebackProcessor x = filed();
        Due.is("settled(0)", x.settled(0), 0);
        Due.indexThrow("settled(-1)", () -> x.settled(-1));
        Due.indexThrow("settled(3)", () -> x.settled(3));
    }

    private static void promise28() {
        Due.sentence("Makes a purchase today.");
        ChargebackProcessor x = Due.with(TEXT);
        x.pass(7);
        Due.is("purchase(0, 1, 1)", x.purchase(0, 1, 1), 0);
        Due.is("purchase(1, 2, 99999)", x.purchase(1, 2, 99999), 1);
        // Reason 1 has a filing window of 0 days: the purchases are of today.
        Due.is("file on the same day", x.file(0, 1, 1), 0);
        x.pass(1);
        Due.stateThrow("file on the next day", () -> x.file(1, 1, 1));
        Due.indexThrow("purchase(-1, 0, 0)", () -> x.purchase(-1, 0, 0));
        Due.indexThrow("purchase(2, 0, 1)", () -> x.purchase(2, 0, 1));
        Due.indexThrow("purchase(0, -1, 1)", () -> x.purchase(0, -1, 1));
        Due.indexThrow("purchase(0, 3, 100000)", () -> x.purchase(0, 3, 100000));
        Due.argumentThrow("purchase(0, 0, 0)", () -> x.purchase(0, 0, 0));
        Due.argumentThrow("purchase(0, 0, 100000)", () -> x.purchase(0, 0, 100000));
        for (int i = 2; i < 24; i++) {
            Due.is("purchase number " + i, x.purchase(0, 0, 5), i);
        }
        Due.stateThrow("purchase number 24", () -> x.purchase(0, 0, 5));
        Due.argumentThrow("purchase number 24 for 0", () -> x.purchase(0, 0, 0));
    }

    private static void promise29() {
        Due.sentence("Files a dispute today.");
        ChargebackProcessor x = bought();
        x.pass(30);
        Due.is("file on the last day", x.file(0, 0, 999), 0);
        Due.is("its deadline", x.deadline(0), 35);
        Due.argumentThrow("file for more than is left", () -> x.file(0, 0, 2));
        Due.is("file for what is left", x.file(0, 0, 1), 1);
        Due.indexThrow("file(-1, 0, 0)", () -> x.file(-1, 0, 0));
        Due.indexThrow("file(1, 0, 1)", () -> x.file(1, 0, 1));
        Due.indexThrow("file(0, -1, 1)", () -> x.file(0, -1, 1));
        Due.indexThrow("file(0, 2, 1)", () -> x.file(0, 2, 1));
        Due.argumentThrow("file(0, 1, 0), too late as well", () -> x.file(0, 1, 0));
        x.undo();
        Due.stateThrow("file(0, 1, 1)", () -> x.file(0, 1, 1));
        for (int i = 1; i < 20; i++) {
            x.purchase(0, 0, 10);
            Due.is("file number " + i, x.file(i, 0, 10), i);
        }
        Due.stateThrow("file number 20", () -> x.file(0, 0, 1));
        Due.argumentThrow("file number 20 for 100000", () -> x.file(0, 0, 100000));
    }

    private static void promise30() {
        Due.sentence("The merchant represents a dispute with evidence, which is added to the set of evidence.");
        ChargebackProcessor x = filed();
        noDispute("represent", () -> x.represent(-1, 0), () -> x.represent(1, 256));
        Due.argumentThrow("represent(0, 0)", () -> x.represent(0, 0));
        Due.argumentThrow("represent(0, 256)", () -> x.represent(0, 256));
        Due.is("represent(0, 255)", x.represent(0, 255), 16 + 2 - 3);
        Due.is("evidence(0)", x.evidence(0), 255);
        Due.stateThrow("represent(0, 255) once more", () -> x.represent(0, 255));
        Due.argumentThrow("represent(0, 0) once more", () -> x.represent(0, 0));
    }

    private static void promise31() {
        Due.sentence("The issuer escalates a dispute.");
        ChargebackProcessor x = represented();
        noDispute("escalate", () -> x.escalate(-1), () -> x.escalate(1));
        Due.is("escalate(0)", x.escalate(0), 10);
        Due.is("deadline(0)", x.deadline(0), 10);
        Due.stateThrow("escalate(0) once more", () -> x.escalate(0));
        Due.stateThrow("escalate(0) of a filed one", () -> filed().escalate(0));
    }

    private static void promise32() {
        Due.sentence("The merchant contests a dispute with further evidence, which is added to the set of evidence.");
        ChargebackProcessor x = escalated();
        noDispute("contest", () -> x.contest(-1, -1), () -> x.contest(1, 256));
        Due.argumentThrow("contest(0, -1)", () -> x.contest(0, -1));
        Due.argumentThrow("contest(0, 256)", () -> x.contest(0, 256));
        Due.is("contest(0, 0)", x.contest(0, 0), 19);
        Due.is("evidence(0)", x.evidence(0), 2);
        Due.stateThrow("contest(0, 0) once more", () -> x.contest(0, 0));
        Due.is("pass until the day before", x.pass(10), 0);
        Due.is("pass to the day that contest told", x.pass(1), 1);
        Due.is("today()", x.today(), 19);
    }

    private static void promise33() {
        Due.sentence("The party that can do something accepts.");
        Due.is("accept(0) of the merchant", filed().accept(0), ChargebackProcessor.ISSUER_WON);
        Due.is("accept(0) of the issuer", represented().accept(0), ChargebackProcessor.MERCHANT_WON);
        Due.is("accept(0) of the merchant again", escalated().accept(0), ChargebackProcessor.ISSUER_WON);
        ChargebackProcessor x = represented();
        x.accept(0);
        accounts("when the issuer has accepted", x, -1015, 1000, 15);
        noDispute("accept", () -> x.accept(-1), () -> x.accept(1));
        Due.stateThrow("accept(0) once more", () -> x.accept(0));
        Due.stateThrow("accept(0) in arbitration", () -> contested(0).accept(0));
        Due.stateThrow("accept(0) of one that the issuer has won", () -> decided(0).accept(0));
    }

    private static void promise34() {
        Due.sentence("Lets days pass.");
        ChargebackProcessor x = filed();
        x.purchase(0, 0, 50);
        x.file(1, 1, 50);
        Due.is("pass(1), no deadline is over", x.pass(1), 0);
        Due.is("pass(1), one is over", x.pass(1), 1);
        x.undo();
        Due.is("pass(100), both are over", x.pass(100), 2);
        Due.is("today()", x.today(), 104);
        Due.argumentThrow("pass(0)", () -> x.pass(0));
        Due.argumentThrow("pass(101)", () -> x.pass(101));
        for (int i = 0; i < 98; i++) {
            x.pass(100);
        }
        Due.stateThrow("pass(96) on day 9904", () -> x.pass(96));
        Due.is("pass(95) on day 9904", x.pass(95), 0);
        Due.stateThrow("pass(1) on the last day", () -> x.pass(1));
        Due.argumentThrow("pass(0) on the last day", () -> x.pass(0));
        Due.is("today() in the end", x.today(), 9999);
    }

    private static void promise35() {
        Due.sentence("Undoes the latest change that has not been undone. The input buffer and the error offset are not affected.");
        ChargebackProcessor x = new ChargebackProcessor();
        LongSupplier[] changes = {() -> Due.load(x, TEXT), () -> x.purchase(1, 2, 1000), () -> x.file(0, 0, 600), () -> x.represent(0, 2),
            () -> x.escalate(0), () -> x.contest(0, 8), () -> x.pass(11), () -> x.file(0, 0, 100), () -> x.accept(1)};
        String[] before = new String[changes.length];
        for (int i = 0; i < changes.length; i++) {
            before[i] = brief(x);
            changes[i].getAsLong();
        }
        Due.load(x, "limit x;");
        x.append(SPACES, SPACES, SPACES, SPACES, SPACES);
        Due.sentence("Returns the number of changes that can still be undone; -1 if there was none to undo, and nothing changes then.");
        for (int i = 7; i >= 0; i--) {
            Due.is("undo() with " + (i + 1) + " to undo", x.undo(), i);
            Due.same("what is seen before change " + (i + 1), brief(x), before[i + 1]);
        }
        Due.is("undo() of a ninth change", x.undo(), -1);
        Due.same("what is seen then", brief(x), before[1]);
        Due.is("errorOffset()", x.errorOffset(), 6);
        Due.is("append to what is in the buffer", x.append(SPACES, SPACES, SPACES, SPACES, SPACES), 40);
    }

    /** Few calls, so that it can be asked often; the checksum is over nearly all data. */
    private static String brief(ChargebackProcessor x) {
        return x.checksum() + " with " + x.reasonCount() + " reasons";
    }

    private static void promise36() {
        Due.sentence("Computes a checksum.");
        sum(new ChargebackProcessor(), 0, 0, 0, 0);
        sum(bought(), 0, 0, -1000, 0, 0, 1000, 0, 0);
        sum(filed(), 3, 0, -400, 0, 0, 385, 15, 600, 0, 8, 0);
        sum(decided(ENOUGH), 20, 0, -1055, 0, 0, 1000, 55, 0, 5, -1, NEEDED | ENOUGH);
    }

    private static void sum(ChargebackProcessor x, int... numbers) {
        long sum = 0;
        for (int number : numbers) {
            sum = 31 * sum + number;
        }
        Due.is("checksum()", x.checksum(), sum);
    }
}
