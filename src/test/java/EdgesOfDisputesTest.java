import java.util.function.Supplier;

/** The edges of "Disputes" in the document: the stages, the deadlines, the money, and the days. */
public final class EdgesOfDisputesTest {
    private static final int FILED = ChargebackProcessor.FILED;
    private static final int REPRESENTED = ChargebackProcessor.REPRESENTED;
    private static final int ESCALATED = ChargebackProcessor.ESCALATED;
    private static final int ARBITRATION = ChargebackProcessor.ARBITRATION;
    private static final int ISSUER_WON = ChargebackProcessor.ISSUER_WON;
    private static final int MERCHANT_WON = ChargebackProcessor.MERCHANT_WON;

    /** An answer window of 5 days, a review window of 8, fees of 15 and 50; what wins is type 0 with another one. */
    private static final String SETUP = "fees 15 50;reason 1 90 5 8 2 needs 0;";

    public static void main(String[] args) {
        atMost20();
        emptyAtFirst();
        filed();
        represented();
        escalated();
        arbitration();
        finalStates();
        disputedAmount();
        greatestAmount();
        latestDay();
        moneyAtFiling();
        moneyOfTheParties();
        moneyOnTheWay();
        moneyAtTheEnd();
        openingFee();
        arbitrationFee();
        giveUp();
        dayByDay();
        deadlineBeforeToday();
        outcomes();
        decision();
        Due.end();
    }

    private static void atMost20() {
        Due.sentence("There are at most 20 disputes.");
        ChargebackProcessor x = withDisputes(19);
        Due.is("the 20th dispute", x.file(0, 0, 1), 19);
        Due.is("disputeCount", x.disputeCount(), 20);
        Twins.refused("the 21st dispute", Due.STATE, () -> withDisputes(20), y -> y.file(0, 0, 1));
        Twins.refused("the 21st dispute, all others being final,", Due.STATE, () -> {
            ChargebackProcessor y = withDisputes(20);
            y.pass(100);
            return y;
        }, y -> y.file(0, 0, 1));
        x.undo();
        Due.is("room again after undo", x.file(0, 0, 2), 19);
        Due.load(x, SETUP);
        x.purchase(0, 0, 5);
        Due.is("room again after load", x.file(0, 0, 2), 0);
    }

    private static ChargebackProcessor withDisputes(int count) {
        ChargebackProcessor x = Due.with("reason 1 200 5 8 2 needs 0;reason 2 200 60 60 0;fees 15 50;");
        x.purchase(0, 0, 99999);
        for (int i = 0; i < count; i++) {
            x.file(0, i % 2, 1 + i);
        }
        return x;
    }

    private static void emptyAtFirst() {
        Due.sentence("a set of evidence (empty at first), a state, and, if it is not final, a deadline.");
        ChargebackProcessor x = at(MERCHANT_WON);
        Due.is("an old dispute has evidence", x.evidence(0) != 0, true);
        x.file(0, 0, 10);
        Due.is("a new one has none", x.evidence(1), 0);
        // The row of an undone dispute is used again.
        x.represent(1, 255);
        x.undo();
        x.undo();
        x.file(0, 0, 10);
        Due.is("a new one in an old row has none", x.evidence(1), 0);
        Due.is("its state", x.state(1), FILED);
        Due.is("its deadline", x.deadline(1), x.today() + 5);
    }

    private static void filed() {
        Due.sentence("FILED: the merchant can represent or accept; the deadline is the day of filing plus the answer window.");
        ChargebackProcessor x = at(FILED);
        Due.is("state", x.state(0), FILED);
        Due.is("deadline", x.deadline(0), 3 + 5);
        x.pass(2);
        Due.is("deadline, later", x.deadline(0), 3 + 5);
        Due.is("represent", x.represent(0, 1), 1);
        Due.is("accept", at(FILED).accept(0), ISSUER_WON);
        refusedAt(FILED, false, true, true, false);
    }

    private static void represented() {
        Due.sentence("REPRESENTED: the issuer can escalate or accept; the deadline is the day of the representment plus the review window.");
        ChargebackProcessor x = at(FILED);
        x.pass(5);
        Due.is("represent on the last day", x.represent(0, 1), 1);
        Due.is("state", x.state(0), REPRESENTED);
        Due.is("deadline", x.deadline(0), 8 + 8);
        Due.is("until the deadline", x.pass(8), 0);
        Due.is("escalate on the last day", x.escalate(0), 16 + 5);
        Due.is("accept", at(REPRESENTED).accept(0), MERCHANT_WON);
        refusedAt(REPRESENTED, true, false, true, false);
    }

    private static void escalated() {
        Due.sentence("ESCALATED: the merchant can contest or accept; the deadline is the day of the escalation plus the answer window.");
        ChargebackProcessor x = at(REPRESENTED);
        x.pass(1);
        x.escalate(0);
        Due.is("state", x.state(0), ESCALATED);
        Due.is("deadline", x.deadline(0), 4 + 5);
        Due.is("until the deadline", x.pass(5), 0);
        Due.is("contest on the last day", x.contest(0, 0), 9 + 11);
        Due.is("accept", at(ESCALATED).accept(0), ISSUER_WON);
        refusedAt(ESCALATED, true, true, false, false);
    }

    private static void arbitration() {
        Due.sentence("ARBITRATION: nobody can do anything; the deadline is the day of the contest plus 10.");
        ChargebackProcessor x = at(ESCALATED);
        x.pass(1);
        Due.is("contest", x.contest(0, 0), 4 + 10 + 1);
        Due.is("state", x.state(0), ARBITRATION);
        Due.is("deadline", x.deadline(0), 4 + 10);
        refusedAt(ARBITRATION, true, true, true, true);
    }

    private static void finalStates() {
        Due.sentence("ISSUER_WON and MERCHANT_WON: these are final.");
        refusedAt(ISSUER_WON, true, true, true, true);
        refusedAt(MERCHANT_WON, true, true, true, true);
        for (int state : new int[] {ISSUER_WON, MERCHANT_WON}) {
            ChargebackProcessor x = at(state);
            Due.is("deadline in state " + state, x.deadline(0), -1);
            int account = x.merchantAccount(0);
            Due.is("nothing more becomes final in state " + state, x.pass(100), 0);
            Due.is("state " + state + " stays", x.state(0), state);
            Due.is("no money moves in state " + state, x.merchantAccount(0), account);
        }
    }

    private static void refusedAt(int state, boolean represent, boolean escalate, boolean contest, boolean accept) {
        Supplier<ChargebackProcessor> maker = () -> at(state);
        String what = " in state " + state;
        if (represent) {
            Twins.refused("represent" + what, Due.STATE, maker, x -> x.represent(0, 4));
        }
        if (escalate) {
            Twins.refused("escalate" + what, Due.STATE, maker, x -> x.escalate(0));
        }
        if (contest) {
            Twins.refused("contest" + what, Due.STATE, maker, x -> x.contest(0, 4));
        }
        if (accept) {
            Twins.refused("accept" + what, Due.STATE, maker, x -> x.accept(0));
        }
    }

    private static void disputedAmount() {
        Due.sentence("The disputed amount of a purchase is the sum of the amounts of its disputes that are not MERCHANT_WON.");
        for (int state = FILED; state <= MERCHANT_WON; state++) {
            ChargebackProcessor x = at(state);
            Due.is("disputed in state " + state, x.disputed(0), state == MERCHANT_WON ? 0 : 600);
            x.purchase(0, 0, 100);
            Due.is("disputed without disputes", x.disputed(1), 0);
            x.file(1, 0, 70);
            x.file(1, 0, 30);
            Due.is("disputed by two", x.disputed(1), 100);
            Due.is("that of the other purchase", x.disputed(0), state == MERCHANT_WON ? 0 : 600);
        }
    }

    private static void greatestAmount() {
        Due.sentence("A dispute can be filed for an amount of at most the purchase's amount minus its disputed amount,");
        for (int state = FILED; state <= MERCHANT_WON; state++) {
            int now = state;
            int free = state == MERCHANT_WON ? 1000 : 400;
            Due.is("all that is free in state " + state, at(state).file(0, 0, free), 1);
            Twins.refused("more than is free in state " + state, Due.ARGUMENT, () -> at(now), x -> x.file(0, 0, free + 1));
            ChargebackProcessor x = at(state);
            x.file(0, 0, free);
            Due.argumentThrow("1 when nothing is free in state " + state, () -> x.file(0, 0, 1));
        }
        ChargebackProcessor y = Due.with(SETUP);
        y.purchase(0, 0, 99999);
        Due.is("all of the greatest purchase", y.file(0, 0, 99999), 0);
        y.purchase(0, 0, 1);
        Due.argumentThrow("2 of the smallest purchase", () -> y.file(1, 0, 2));
        Due.is("1 of the smallest purchase", y.file(1, 0, 1), 1);
    }

    private static void latestDay() {
        Due.sentence("and not later than the day of the purchase plus the filing window.");
        Supplier<ChargebackProcessor> lastDay = () -> {
            ChargebackProcessor x = Due.with("reason 1 90 5 8 2;reason 2 91 5 8 2;");
            x.pass(4);
            x.purchase(0, 0, 10);
            x.pass(90);
            return x;
        };
        Due.is("on the last day", lastDay.get().file(0, 0, 1), 0);
        Supplier<ChargebackProcessor> dayAfter = () -> {
            ChargebackProcessor x = lastDay.get();
            x.pass(1);
            return x;
        };
        Twins.refused("on the day after it", Due.STATE, dayAfter, x -> x.file(0, 0, 1));
        Due.is("with a window of a day more", dayAfter.get().file(0, 1, 1), 0);
        // The window counts from the purchase's own day.
        ChargebackProcessor y = dayAfter.get();
        y.purchase(0, 0, 10);
        Due.is("another purchase", y.file(1, 0, 1), 0);
        Due.stateThrow("the first one is still too old", () -> y.file(0, 0, 1));
    }

    private static void moneyAtFiling() {
        Due.sentence("The disputed money: when a dispute is filed, the merchant pays its amount to the issuer, and the opening fee to the network.");
        money(at(FILED), -1000 + 600, 1000 - 600 - 15, 15);
    }

    /** Every issuer with every merchant: no other account moves. */
    private static void moneyOfTheParties() {
        Due.sentence("A dispute has a purchase, a reason, an amount, a day on which it was filed,");
        for (int issuer = 0; issuer < 4; issuer++) {
            for (int merchant = 0; merchant < 4; merchant++) {
                ChargebackProcessor x = Due.with("parties 4 4;" + SETUP);
                x.purchase((issuer + 1) % 4, (merchant + 2) % 4, 7);
                x.purchase(issuer, merchant, 1000);
                x.file(1, 0, 600);
                parties(x, issuer, -1000 + 600, merchant, 1000 - 600 - 15);
                x.represent(0, 1);
                parties(x, issuer, -1000, merchant, 1000 - 15);
                x.escalate(0);
                parties(x, issuer, -1000 + 600, merchant, 1000 - 600 - 15);
                x.contest(0, 2);
                x.pass(11);
                parties(x, issuer, -1000 - 15 - 50, merchant, 1000);
            }
        }
    }

    private static void parties(ChargebackProcessor x, int issuer, int paid, int merchant, int got) {
        for (int i = 0; i < 4; i++) {
            Due.is("the account of issuer " + i, x.issuerAccount(i), i == issuer ? paid : i == (issuer + 1) % 4 ? -7 : 0);
            Due.is("the account of merchant " + i, x.merchantAccount(i), i == merchant ? got : i == (merchant + 2) % 4 ? 7 : 0);
        }
    }

    private static void moneyOnTheWay() {
        Due.sentence("When it is represented, the issuer pays the amount to the merchant; when it is escalated, the merchant pays it to the issuer.");
        money(at(REPRESENTED), -1000, 1000 - 15, 15);
        money(at(ESCALATED), -1000 + 600, 1000 - 600 - 15, 15);
        money(at(ARBITRATION), -1000 + 600, 1000 - 600 - 15, 15);
        boolean[] withMerchant = {false, true, false, false, false, true};
        for (int state = FILED; state <= MERCHANT_WON; state++) {
            Due.is("isWithMerchant in state " + state, at(state).isWithMerchant(0), withMerchant[state]);
        }
    }

    /** From every stage, by giving up, by letting the time run out, and by a decision. */
    private static void moneyAtTheEnd() {
        Due.sentence("When a dispute becomes ISSUER_WON or MERCHANT_WON, the winner gets the amount from the other one if it does not have it already.");
        for (int state : new int[] {FILED, ESCALATED}) {
            ChargebackProcessor x = at(state);
            x.accept(0);
            money(x, -1000 + 600, 1000 - 600 - 15, 15);
            ChargebackProcessor y = at(state);
            y.pass(6);
            money(y, -1000 + 600, 1000 - 600 - 15, 15);
        }
        ChargebackProcessor x = at(ARBITRATION);
        x.pass(11);
        money(x, -1000 + 600, 1000 - 600 - 15 - 50, 15 + 50);
        ChargebackProcessor y = at(ESCALATED);
        y.contest(0, 3);
        y.pass(11);
        money(y, -1000 - 15 - 50, 1000, 15 + 50);
    }

    private static void openingFee() {
        Due.sentence("If it becomes MERCHANT_WON, the issuer also pays the opening fee to the merchant.");
        ChargebackProcessor x = at(REPRESENTED);
        x.accept(0);
        money(x, -1000 - 15, 1000, 15);
        ChargebackProcessor y = at(REPRESENTED);
        y.pass(9);
        money(y, -1000 - 15, 1000, 15);
    }

    private static void arbitrationFee() {
        Due.sentence("If it became final by the decision of an arbitration, the loser pays the arbitration fee to the network.");
        ChargebackProcessor x = at(ARBITRATION);
        Due.is("not before the decision", x.networkAccount(), 15);
        x.pass(10);
        Due.is("not on the deadline", x.networkAccount(), 15);
        x.pass(1);
        Due.is("by the decision", x.networkAccount(), 65);
        x.pass(100);
        Due.is("and only once", x.networkAccount(), 65);
        Due.is("a lost dispute without a decision", at(ISSUER_WON).networkAccount(), 15);
        Due.is("a won dispute without a decision", at(MERCHANT_WON).networkAccount(), 15);
    }

    private static void giveUp() {
        Due.sentence("To accept means: the party that can do something gives up; the other one wins.");
        int[] due = {ISSUER_WON, MERCHANT_WON, ISSUER_WON};
        for (int state = FILED; state <= ESCALATED; state++) {
            ChargebackProcessor x = at(state);
            Due.is("accept in state " + state, x.accept(0), due[state]);
            Due.is("its state then", x.state(0), due[state]);
            Due.is("its deadline then", x.deadline(0), -1);
        }
        // All evidence does not help who gives up.
        ChargebackProcessor y = at(FILED);
        y.represent(0, 255);
        y.escalate(0);
        Due.is("accept with all evidence", y.accept(0), ISSUER_WON);
    }

    private static void dayByDay() {
        Due.sentence("When a day passes, today increases by 1.");
        ChargebackProcessor x = withDisputes(12);
        ChargebackProcessor y = withDisputes(12);
        for (ChargebackProcessor z : new ChargebackProcessor[] {x, y}) {
            z.represent(3, 7);
            z.represent(4, 7);
            z.escalate(4);
            z.contest(4, 0);
        }
        int finished = 0;
        for (int i = 1; i <= 70; i++) {
            finished += y.pass(1);
            Due.is("today", y.today(), i);
        }
        Due.is("70 days at once", x.pass(70), finished);
        Due.same("all data", Twins.seen(x), Twins.seen(y));
    }

    private static void deadlineBeforeToday() {
        Due.sentence("Then the disputes that are not final and whose deadline is before today are treated in increasing order of their indexes:");
        int[] days = {5, 8, 5, 10};
        for (int state = FILED; state <= ARBITRATION; state++) {
            ChargebackProcessor x = at(state);
            Due.is("the deadline is today in state " + state, x.pass(days[state]), 0);
            Due.is("its deadline", x.deadline(0), x.today());
            Due.is("it stays", x.state(0), state);
            Due.is("the deadline is before today in state " + state, x.pass(1), 1);
            Due.is("it is final", x.deadline(0), -1);
            ChargebackProcessor y = at(state);
            Due.is("at once in state " + state, y.pass(days[state] + 1), 1);
            Due.same("all data", Twins.seen(y), Twins.seen(x));
        }
    }

    private static void outcomes() {
        Due.sentence("FILED and ESCALATED ones become ISSUER_WON, REPRESENTED ones MERCHANT_WON.");
        int[] due = {ISSUER_WON, MERCHANT_WON, ISSUER_WON};
        for (int state = FILED; state <= ESCALATED; state++) {
            ChargebackProcessor x = at(state);
            x.pass(100);
            Due.is("from state " + state, x.state(0), due[state]);
        }
        // All evidence does not help who lets the time run out.
        ChargebackProcessor y = at(FILED);
        y.represent(0, 255);
        y.escalate(0);
        y.pass(6);
        Due.is("from ESCALATED with all evidence", y.state(0), ISSUER_WON);
    }

    private static void decision() {
        Due.sentence("they become MERCHANT_WON if the score is at least the threshold of the reason and all needed evidence is in the set of evidence, otherwise ISSUER_WON.");
        decided("score 4;", "5", 0b11, ISSUER_WON);
        decided("score 5;", "5", 0b11, MERCHANT_WON);
        decided("score 6;", "5", 0b11, MERCHANT_WON);
        decided("score 0-1;", "0", 0b11, ISSUER_WON);
        decided("score 0;", "0", 0b11, MERCHANT_WON);
        decided("score 9;", "5 needs 0 1", 0b01, ISSUER_WON);
        decided("score 9;", "5 needs 0 1", 0b10, ISSUER_WON);
        decided("score 9;", "5 needs 0 1", 0b11, MERCHANT_WON);
        decided("score 9;", "5 needs 0 1", 0b11111100, ISSUER_WON);
        decided("score 4;", "5 needs 0 1", 0b11111111, ISSUER_WON);
        decided("score 9999;", "9999 needs 0 1 2 3 4 5 6 7", 0b11111111, MERCHANT_WON);
        decided("score 9999;", "9999 needs 0 1 2 3 4 5 6 7", 0b01111111, ISSUER_WON);
        decided("", "2 needs 5", 0b100001, MERCHANT_WON);
        decided("", "3 needs 5", 0b100001, ISSUER_WON);
    }

    private static void decided(String score, String thresholdAndNeeds, int evidence, int due) {
        ChargebackProcessor x = Due.with(score + "reason 1 9 9 9 " + thresholdAndNeeds + ";");
        x.purchase(0, 0, 5);
        x.file(0, 0, 5);
        x.represent(0, evidence);
        x.escalate(0);
        x.contest(0, 0);
        x.pass(11);
        Due.is("the decision with \"" + score + "\", " + thresholdAndNeeds + " and the set " + evidence, x.state(0), due);
    }

    /** A dispute of 600 of a purchase of 1000, both of day 3, which is today; an arbitration would be lost. */
    private static ChargebackProcessor at(int state) {
        ChargebackProcessor x = Due.with(SETUP);
        x.pass(3);
        x.purchase(0, 0, 1000);
        x.file(0, 0, 600);
        if (state != FILED && state != ISSUER_WON) {
            x.represent(0, 1);
        }
        if (state == ESCALATED || state == ARBITRATION) {
            x.escalate(0);
        }
        if (state == ARBITRATION) {
            x.contest(0, 0);
        }
        if (state == ISSUER_WON || state == MERCHANT_WON) {
            x.accept(0);
        }
        Due.append(x, "parties 2 4;");
        return x;
    }

    private static void money(ChargebackProcessor x, int issuer, int merchant, int network) {
        String state = " in state " + x.state(0);
        Due.is("the issuer's account" + state, x.issuerAccount(0), issuer);
        Due.is("the merchant's account" + state, x.merchantAccount(0), merchant);
        Due.is("the network's account" + state, x.networkAccount(), network);
    }
}
