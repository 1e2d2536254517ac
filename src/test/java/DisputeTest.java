/** Promises 8, 9, 12 to 19, 26 and 28 to 33: purchases, disputes, their stages and their money. */
public final class DisputeTest {
    private static final String SETUP = "parties 2 3;fees 15 50;reason 10 30 5 4 3 needs 0;reason 20 0 7 9 0;score count;";

    public static void main(String[] args) {
        purchases();
        wrongPurchases();
        filing();
        wrongFilings();
        filingWindow();
        representing();
        escalating();
        contesting();
        accepting();
        wrongStates();
        exceptionOrder();
        disputedAmounts();
        limits();
        Due.end();
    }

    private static void purchases() {
        ChargebackProcessor x = Due.with(SETUP);
        Due.is("the first purchase", x.purchase(1, 2, 1000), 0);
        Due.is("the second purchase", x.purchase(0, 2, 1), 1);
        Due.is("the third purchase", x.purchase(1, 0, 99999), 2);
        Due.is("purchaseCount", x.purchaseCount(), 3);
        accounts(x, "-1,-100999", "99999,0,1001", 0);
    }

    private static void wrongPurchases() {
        ChargebackProcessor x = Due.with(SETUP);
        Due.indexThrow("issuer 2", () -> x.purchase(2, 0, 1));
        Due.indexThrow("issuer -1", () -> x.purchase(-1, 0, 1));
        Due.indexThrow("merchant 3", () -> x.purchase(0, 3, 1));
        Due.indexThrow("merchant -1", () -> x.purchase(0, -1, 1));
        Due.argumentThrow("amount 0", () -> x.purchase(0, 0, 0));
        Due.argumentThrow("amount -1", () -> x.purchase(0, 0, -1));
        Due.argumentThrow("amount 100000", () -> x.purchase(0, 0, 100000));
        Due.argumentThrow("the smallest amount", () -> x.purchase(0, 0, Integer.MIN_VALUE));
        Due.is("purchaseCount", x.purchaseCount(), 0);
        accounts(x, "0,0", "0,0,0", 0);
        Due.is("no change but load", x.undo(), 0);
    }

    private static void filing() {
        ChargebackProcessor x = disputeOf600();
        Due.is("disputeCount", x.disputeCount(), 1);
        accounts(x, "0,-400", "0,0,385", 15);
        dispute(x, ChargebackProcessor.FILED, 6, 0, false);
        Due.is("disputed", x.disputed(0), 600);
        Due.is("exposure", x.exposure(2), 600);
        Due.is("exposure of another one", x.exposure(0), 0);
        Due.is("file the rest", x.file(0, 0, 400), 1);
        Due.is("deadline of the second", x.deadline(1), 6);
        accounts(x, "0,0", "0,0,-30", 30);
        Due.is("exposure to both", x.exposure(2), 1000);
    }

    private static void wrongFilings() {
        ChargebackProcessor x = disputeOf600();
        long before = x.checksum();
        Due.indexThrow("purchase 1", () -> x.file(1, 0, 1));
        Due.indexThrow("purchase -1", () -> x.file(-1, 0, 1));
        Due.indexThrow("reason 2", () -> x.file(0, 2, 1));
        Due.indexThrow("reason -1", () -> x.file(0, -1, 1));
        Due.argumentThrow("amount 0", () -> x.file(0, 0, 0));
        Due.argumentThrow("amount -1", () -> x.file(0, 0, -1));
        Due.argumentThrow("amount 100000", () -> x.file(0, 0, 100000));
        Due.argumentThrow("more than is free", () -> x.file(0, 0, 401));
        Due.is("checksum", x.checksum(), before);
        Due.is("disputeCount", x.disputeCount(), 1);
        Due.is("undo of the filing", x.undo(), 3);
        Due.is("disputeCount then", x.disputeCount(), 0);
    }

    private static void filingWindow() {
        ChargebackProcessor x = Due.with(SETUP);
        x.pass(3);
        x.purchase(0, 0, 10);
        Due.is("a window of 0 days, on the day,", x.file(0, 1, 1), 0);
        x.pass(1);
        Due.stateThrow("a window of 0 days, a day later,", () -> x.file(0, 1, 1));
        x.pass(29);
        Due.is("on the last of 30 days", x.file(0, 0, 1), 1);
        x.pass(1);
        Due.stateThrow("a day after it", () -> x.file(0, 0, 1));
        Due.is("disputeCount", x.disputeCount(), 2);
    }

    private static void representing() {
        ChargebackProcessor x = disputeOf600();
        x.pass(2);
        Due.argumentThrow("no evidence", () -> x.represent(0, 0));
        Due.argumentThrow("evidence 256", () -> x.represent(0, 256));
        Due.argumentThrow("evidence -1", () -> x.represent(0, -1));
        Due.indexThrow("dispute 1", () -> x.represent(1, 1));
        dispute(x, ChargebackProcessor.FILED, 6, 0, false);
        Due.is("represent", x.represent(0, 255), 8);
        dispute(x, ChargebackProcessor.REPRESENTED, 7, 255, true);
        accounts(x, "0,-1000", "0,0,985", 15);
        Due.is("disputed", x.disputed(0), 600);
        Due.is("exposure", x.exposure(2), 600);
    }

    private static void escalating() {
        ChargebackProcessor x = disputeOf600();
        x.represent(0, 128);
        x.pass(3);
        Due.indexThrow("dispute 1", () -> x.escalate(1));
        Due.is("escalate", x.escalate(0), 9);
        dispute(x, ChargebackProcessor.ESCALATED, 9, 128, false);
        accounts(x, "0,-400", "0,0,385", 15);
    }

    private static void contesting() {
        ChargebackProcessor x = disputeOf600();
        x.represent(0, 2);
        x.escalate(0);
        x.pass(5);
        Due.argumentThrow("evidence -1", () -> x.contest(0, -1));
        Due.argumentThrow("evidence 256", () -> x.contest(0, 256));
        Due.indexThrow("dispute 1", () -> x.contest(1, 0));
        Due.is("contest", x.contest(0, 3), 17);
        dispute(x, ChargebackProcessor.ARBITRATION, 16, 3, false);
        accounts(x, "0,-400", "0,0,385", 15);
        Due.is("the day of the deadline", x.pass(10), 0);
        dispute(x, ChargebackProcessor.ARBITRATION, 16, 3, false);
        Due.is("the day of the decision", x.pass(1), 1);
        Due.is("today", x.today(), 17);
        dispute(x, ChargebackProcessor.ISSUER_WON, -1, 3, false);
        accounts(x, "0,-400", "0,0,335", 65);

        ChargebackProcessor y = disputeOf600();
        y.represent(0, 2);
        y.escalate(0);
        Due.is("contest without further evidence", y.contest(0, 0), 12);
        Due.is("evidence", y.evidence(0), 2);

        ChargebackProcessor z = disputeOf600();
        z.represent(0, 128);
        z.escalate(0);
        z.contest(0, 3);
        Due.is("all that is needed, and the score is at the threshold,", z.pass(11), 1);
        dispute(z, ChargebackProcessor.MERCHANT_WON, -1, 131, true);
        accounts(z, "0,-1065", "0,0,1000", 65);

        ChargebackProcessor w = disputeOf600();
        w.represent(0, 128);
        w.escalate(0);
        w.contest(0, 126);
        Due.is("a score of 7 without what is needed", w.pass(11), 1);
        dispute(w, ChargebackProcessor.ISSUER_WON, -1, 254, false);
    }

    private static void accepting() {
        ChargebackProcessor x = disputeOf600();
        Due.indexThrow("dispute 1", () -> x.accept(1));
        Due.is("the merchant gives up at first", x.accept(0), ChargebackProcessor.ISSUER_WON);
        dispute(x, ChargebackProcessor.ISSUER_WON, -1, 0, false);
        accounts(x, "0,-400", "0,0,385", 15);
        Due.is("disputed", x.disputed(0), 600);
        Due.is("exposure", x.exposure(2), 0);

        ChargebackProcessor y = disputeOf600();
        y.represent(0, 4);
        Due.is("the issuer gives up", y.accept(0), ChargebackProcessor.MERCHANT_WON);
        dispute(y, ChargebackProcessor.MERCHANT_WON, -1, 4, true);
        accounts(y, "0,-1015", "0,0,1000", 15);
        Due.is("disputed", y.disputed(0), 0);
        Due.is("exposure", y.exposure(2), 0);

        ChargebackProcessor z = disputeOf600();
        z.represent(0, 4);
        z.escalate(0);
        Due.is("the merchant gives up later", z.accept(0), ChargebackProcessor.ISSUER_WON);
        dispute(z, ChargebackProcessor.ISSUER_WON, -1, 4, false);
        accounts(z, "0,-400", "0,0,385", 15);
    }

    private static void wrongStates() {
        ChargebackProcessor x = disputeOf600();
        refused(x, false, true, true, false);
        x.represent(0, 1);
        refused(x, true, false, true, false);
        x.escalate(0);
        refused(x, true, true, false, false);
        x.contest(0, 255);
        refused(x, true, true, true, true);
        x.pass(11);
        Due.is("it is final", x.state(0), ChargebackProcessor.MERCHANT_WON);
        refused(x, true, true, true, true);
        ChargebackProcessor y = disputeOf600();
        y.accept(0);
        refused(y, true, true, true, true);
    }

    private static void refused(ChargebackProcessor x, boolean represent, boolean escalate, boolean contest, boolean accept) {
        long before = x.checksum();
        String state = " in state " + x.state(0);
        if (represent) {
            Due.stateThrow("represent" + state, () -> x.represent(0, 255));
        }
        if (escalate) {
            Due.stateThrow("escalate" + state, () -> x.escalate(0));
        }
        if (contest) {
            Due.stateThrow("contest" + state, () -> x.contest(0, 255));
        }
        if (accept) {
            Due.stateThrow("accept" + state, () -> x.accept(0));
        }
        Due.is("checksum" + state, x.checksum(), before);
    }

    /** Of several exceptions, the one that the method lists first. */
    private static void exceptionOrder() {
        ChargebackProcessor x = disputeOf600();
        Due.indexThrow("index before argument in purchase", () -> x.purchase(0, 3, 0));
        Due.indexThrow("index before argument in file", () -> x.file(0, 2, 0));
        Due.argumentThrow("argument before state in represent", () -> {
            x.represent(0, 1);
            return x.represent(0, 0);
        });
        Due.argumentThrow("argument before state in contest", () -> x.contest(0, 256));
        x.pass(100);
        Due.argumentThrow("the amount before the window in file", () -> x.file(0, 0, 1001));
        Due.indexThrow("the reason before the window in file", () -> x.file(0, 2, 1));
        Due.stateThrow("the window alone", () -> x.file(0, 0, 1));
    }

    private static void disputedAmounts() {
        ChargebackProcessor x = Due.with(SETUP);
        x.purchase(0, 0, 100);
        x.purchase(1, 1, 100);
        x.file(0, 0, 40);
        x.file(1, 0, 30);
        x.file(0, 0, 60);
        Due.is("disputed(0)", x.disputed(0), 100);
        Due.is("disputed(1)", x.disputed(1), 30);
        Due.indexThrow("disputed(2)", () -> x.disputed(2));
        Due.argumentThrow("nothing is free", () -> x.file(0, 0, 1));
        x.represent(0, 1);
        x.accept(0);
        Due.is("the merchant's victory makes it free", x.disputed(0), 60);
        Due.is("file it again", x.file(0, 0, 40), 3);
        x.accept(2);
        Due.is("the issuer's victory does not", x.disputed(0), 100);
    }

    private static void limits() {
        ChargebackProcessor x = Due.with(SETUP);
        for (int i = 0; i < 24; i++) {
            Due.is("purchase " + i, x.purchase(i % 2, i % 3, 99999), i);
        }
        Due.stateThrow("purchase 24", () -> x.purchase(0, 0, 1));
        Due.argumentThrow("amount 0 of purchase 24", () -> x.purchase(0, 0, 0));
        Due.is("purchaseCount", x.purchaseCount(), 24);
        for (int i = 0; i < 20; i++) {
            Due.is("dispute " + i, x.file(23 - i, 0, 99999), i);
        }
        Due.stateThrow("dispute 20", () -> x.file(0, 0, 1));
        Due.argumentThrow("dispute 20 with a wrong amount", () -> x.file(0, 0, 0));
        Due.is("disputeCount", x.disputeCount(), 20);
        Due.is("the last dispute", x.state(19), ChargebackProcessor.FILED);
        Due.indexThrow("the one behind it", () -> x.state(20));
        Due.is("all end at once", x.pass(6), 20);
    }

    /** A purchase of 1000 on day 1 and a dispute of 600 on the same day, its deadline is day 6. */
    private static ChargebackProcessor disputeOf600() {
        ChargebackProcessor x = Due.with(SETUP);
        x.pass(1);
        x.purchase(1, 2, 1000);
        Due.is("file", x.file(0, 0, 600), 0);
        return x;
    }

    private static void dispute(ChargebackProcessor x, int state, int deadline, int evidence, boolean withMerchant) {
        Due.is("state", x.state(0), state);
        Due.is("deadline", x.deadline(0), deadline);
        Due.is("evidence", x.evidence(0), evidence);
        Due.is("isWithMerchant", x.isWithMerchant(0), withMerchant);
    }

    private static void accounts(ChargebackProcessor x, String issuers, String merchants, int network) {
        Due.same("the issuers' accounts", x.issuerAccount(0) + "," + x.issuerAccount(1), issuers);
        Due.same("the merchants' accounts", x.merchantAccount(0) + "," + x.merchantAccount(1) + "," + x.merchantAccount(2), merchants);
        Due.is("networkAccount", x.networkAccount(), network);
    }
}
