/** Promise 1, and what promises 4 to 36 answer on a new object. */
public final class NewObjectTest {
    public static void main(String[] args) {
        ChargebackProcessor x = new ChargebackProcessor();
        Due.is("errorOffset()", x.errorOffset(), -1);
        Due.is("issuerCount()", x.issuerCount(), 1);
        Due.is("merchantCount()", x.merchantCount(), 1);
        Due.is("reasonCount()", x.reasonCount(), 0);
        Due.is("purchaseCount()", x.purchaseCount(), 0);
        Due.is("disputeCount()", x.disputeCount(), 0);
        Due.is("today()", x.today(), 0);
        Due.is("reasonOf(0)", x.reasonOf(0), -1);
        Due.is("issuerAccount(0)", x.issuerAccount(0), 0);
        Due.is("merchantAccount(0)", x.merchantAccount(0), 0);
        Due.is("networkAccount()", x.networkAccount(), 0);
        Due.is("nextDeadline()", x.nextDeadline(), -1);
        Due.is("rate(0)", x.rate(0), 0);
        Due.is("isWatched(0)", x.isWatched(0), false);
        Due.is("exposure(0)", x.exposure(0), 0);
        Due.is("settled(0)", x.settled(0), 0);
        Due.is("undo()", x.undo(), -1);
        Due.is("checksum()", x.checksum(), 0);
        Due.argumentThrow("load(1) of an empty buffer", () -> x.load(1));
        noSuchIndex(x, 0);
        noSuchIndex(x, -1);
        noSuchIndex(x, Integer.MAX_VALUE);
        noSuchIndex(x, Integer.MIN_VALUE);
        noSuchParty(x, 1);
        noSuchParty(x, -1);
        noSuchParty(x, Integer.MAX_VALUE);
        noSuchParty(x, Integer.MIN_VALUE);
        usualSetup();
        Due.end();
    }

    private static void noSuchIndex(ChargebackProcessor x, int i) {
        Due.indexThrow("disputed " + i, () -> x.disputed(i));
        Due.indexThrow("state " + i, () -> x.state(i));
        Due.indexThrow("deadline " + i, () -> x.deadline(i));
        Due.indexThrow("evidence " + i, () -> x.evidence(i));
        Due.indexThrow("isWithMerchant " + i, () -> x.isWithMerchant(i) ? 1 : 0);
        Due.indexThrow("score " + i, () -> x.score(i));
        Due.indexThrow("wouldWin " + i, () -> x.wouldWin(i, 256) ? 1 : 0);
        Due.indexThrow("bestEvidence " + i, () -> x.bestEvidence(i));
        Due.indexThrow("file of purchase " + i, () -> x.file(i, 0, 0));
        Due.indexThrow("represent " + i, () -> x.represent(i, 0));
        Due.indexThrow("escalate " + i, () -> x.escalate(i));
        Due.indexThrow("contest " + i, () -> x.contest(i, 256));
        Due.indexThrow("accept " + i, () -> x.accept(i));
    }

    private static void noSuchParty(ChargebackProcessor x, int i) {
        Due.indexThrow("issuerAccount " + i, () -> x.issuerAccount(i));
        Due.indexThrow("merchantAccount " + i, () -> x.merchantAccount(i));
        Due.indexThrow("rate " + i, () -> x.rate(i));
        Due.indexThrow("isWatched " + i, () -> x.isWatched(i) ? 1 : 0);
        Due.indexThrow("exposure " + i, () -> x.exposure(i));
        Due.indexThrow("settled " + i, () -> x.settled(i));
        Due.indexThrow("purchase of issuer " + i, () -> x.purchase(i, 0, 0));
        Due.indexThrow("purchase of merchant " + i, () -> x.purchase(0, i, 0));
    }

    /** A new object works as after an empty text: one party of each kind, no reason, no fees. */
    private static void usualSetup() {
        ChargebackProcessor x = new ChargebackProcessor();
        Due.is("purchase", x.purchase(0, 0, 99999), 0);
        Due.indexThrow("file without reasons", () -> x.file(0, 0, 1));
        Due.is("its account", x.merchantAccount(0), 99999);
        Due.is("pass", x.pass(100), 0);
        Due.is("today", x.today(), 100);
    }
}
