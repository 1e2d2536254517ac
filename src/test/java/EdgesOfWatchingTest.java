/** The edges of "Watching" in the document, and promises 23 to 27. */
public final class EdgesOfWatchingTest {
    private static final String SETUP = "parties 2 3;fees 7 90;reason 1 200 60 60 2 needs 0;reason 2 200 10 20 2 needs 0;";

    public static void main(String[] args) {
        rates();
        roundedDown();
        ofThisMerchant();
        lastDaysOfPurchases();
        lastDaysOfDisputes();
        noPurchases();
        anyState();
        watched();
        limits();
        nextDeadline();
        noDeadline();
        exposure();
        settled();
        settledBeyondTheLastDay();
        settledAsPassed();
        Due.end();
    }

    private static void rates() {
        Due.sentence("The rate of a merchant is (number of disputes with purchases of this merchant that were filed in the last 30 days) * 1000 / (number of purchases of this merchant in the last 30 days),");
        rate(0, 1, 0);
        rate(1, 1, 1000);
        rate(20, 1, 20000);
        rate(20, 24, 833);
        rate(1, 24, 41);
        rate(0, 24, 0);
    }

    private static void roundedDown() {
        Due.sentence("Division rounds down; all dividends are 0 or more except in the score expression.");
        rate(1, 3, 333);
        rate(2, 3, 666);
        rate(1, 7, 142);
        rate(6, 7, 857);
        rate(1, 2, 500);
    }

    private static void rate(int disputes, int purchases, int due) {
        ChargebackProcessor x = Due.with(SETUP);
        for (int i = 0; i < purchases; i++) {
            x.purchase(0, 0, 100);
        }
        for (int i = 0; i < disputes; i++) {
            x.file(0, 0, 1);
        }
        Due.is(disputes + " disputes of " + purchases + " purchases", x.rate(0), due);
    }

    private static void ofThisMerchant() {
        Due.sentence("(number of disputes with purchases of this merchant that were filed in the last 30 days)");
        ChargebackProcessor x = Due.with(SETUP);
        x.purchase(0, 0, 100);
        x.purchase(1, 1, 100);
        x.purchase(0, 1, 100);
        x.purchase(1, 0, 100);
        x.file(0, 0, 1);
        x.file(1, 0, 1);
        x.file(2, 0, 1);
        x.file(2, 0, 1);
        Due.is("the first merchant", x.rate(0), 500);
        Due.is("the second merchant", x.rate(1), 1500);
        Due.is("the third merchant", x.rate(2), 0);
    }

    private static void lastDaysOfPurchases() {
        Due.sentence("The last 30 days are the days from today - 29 to today.");
        ChargebackProcessor x = Due.with(SETUP);
        x.pass(5);
        x.purchase(0, 0, 100);
        x.pass(1);
        x.purchase(0, 0, 100);
        x.pass(28);
        x.purchase(0, 0, 100);
        x.file(2, 0, 1);
        Due.is("purchases of today - 29, today - 28 and today", x.rate(0), 333);
        x.pass(1);
        Due.is("without the one of today - 30", x.rate(0), 500);
        x.pass(1);
        Due.is("without both", x.rate(0), 1000);
    }

    private static void lastDaysOfDisputes() {
        Due.sentence("The last 30 days are the days from today - 29 to today.");
        ChargebackProcessor x = Due.with(SETUP);
        x.purchase(0, 0, 100);
        x.file(0, 0, 1);
        x.pass(1);
        x.file(0, 0, 1);
        x.pass(28);
        x.file(0, 0, 1);
        x.purchase(0, 0, 100);
        Due.is("disputes of today - 29, today - 28 and today, two purchases", x.rate(0), 1500);
        x.pass(1);
        Due.is("without the dispute and the purchase of today - 30", x.rate(0), 2000);
        x.pass(1);
        Due.is("without both old disputes", x.rate(0), 1000);
        x.pass(27);
        Due.is("today - 29 once more", x.rate(0), 1000);
        x.purchase(0, 0, 100);
        x.pass(1);
        Due.is("the last dispute is of today - 30", x.rate(0), 0);
    }

    private static void noPurchases() {
        Due.sentence("or 0 if there are no such purchases.");
        ChargebackProcessor x = Due.with(SETUP);
        Due.is("none at all", x.rate(0), 0);
        x.purchase(0, 0, 100);
        x.pass(29);
        x.file(0, 0, 1);
        Due.is("one of today - 29", x.rate(0), 1000);
        x.pass(1);
        Due.is("one of today - 30, and a dispute of yesterday", x.rate(0), 0);
        Due.is("a merchant without purchases is not watched", x.isWatched(0), false);
        x.purchase(0, 1, 100);
        Due.is("a purchase of another merchant", x.rate(0), 0);
        x.purchase(1, 0, 100);
        Due.is("one of today", x.rate(0), 1000);
    }

    private static void anyState() {
        Due.sentence("that were filed in the last 30 days");
        ChargebackProcessor x = Due.with(SETUP);
        for (int i = 0; i < 5; i++) {
            x.purchase(0, 0, 100);
            x.file(i, 0, 1);
        }
        x.represent(1, 1);
        x.represent(2, 1);
        x.escalate(2);
        x.accept(0);
        x.represent(3, 1);
        x.accept(3);
        Due.is("disputes in all states count", x.rate(0), 1000);
    }

    private static void watched() {
        Due.sentence("A merchant is watched if its rate is greater than the limit (0 to 9999; 100 without a statement).");
        isWatched("limit 499;", 1, 2, true);
        isWatched("limit 500;", 1, 2, false);
        isWatched("limit 501;", 1, 2, false);
        isWatched("limit 0;", 0, 1, false);
        isWatched("limit 0;", 1, 24, true);
        isWatched("limit 9999;", 9, 1, false);
        isWatched("limit 9999;", 10, 1, true);
        isWatched("limit 1000;", 1, 1, false);
        isWatched("limit 999;", 1, 1, true);
    }

    private static void limits() {
        Due.sentence("(0 to 9999; 100 without a statement)");
        Texts.good("limit 0;", 0);
        Texts.good("limit 9999;", 0);
        Texts.bad("limit 10000;", Texts.RANGE, 6);
        isWatched("", 1, 11, false);
        isWatched("", 1, 10, false);
        isWatched("", 2, 20, false);
        isWatched("", 2, 19, true);
        isWatched("", 1, 9, true);
        ChargebackProcessor x = Due.with("limit 9999;");
        Due.load(x, "reason 1 9 9 9 9;");
        x.purchase(0, 0, 1);
        x.file(0, 0, 1);
        Due.is("a text without a limit, after one with a limit", x.isWatched(0), true);
    }

    private static void isWatched(String limit, int disputes, int purchases, boolean due) {
        ChargebackProcessor x = Due.with(SETUP + limit);
        for (int i = 0; i < purchases; i++) {
            x.purchase(0, 1, 100);
        }
        for (int i = 0; i < disputes; i++) {
            x.file(0, 0, 1);
        }
        Due.is(disputes + " disputes of " + purchases + " purchases with \"" + limit + "\"", x.isWatched(1), due);
        Due.is("another merchant with \"" + limit + "\"", x.isWatched(0), false);
    }

    private static void nextDeadline() {
        Due.sentence("Returns the smallest deadline of all disputes that are not final;");
        ChargebackProcessor x = Due.with(SETUP);
        x.purchase(0, 0, 100);
        x.purchase(1, 2, 100);
        x.file(0, 0, 1);
        Due.is("one", x.nextDeadline(), 60);
        x.file(1, 1, 1);
        Due.is("the later one is smaller", x.nextDeadline(), 10);
        x.file(0, 1, 1);
        Due.is("two alike", x.nextDeadline(), 10);
        x.accept(1);
        Due.is("one of the two is final", x.nextDeadline(), 10);
        x.represent(2, 1);
        Due.is("a new deadline", x.nextDeadline(), 20);
        x.escalate(2);
        x.contest(2, 0);
        Due.is("an arbitration", x.nextDeadline(), 10);
        x.pass(10);
        Due.is("on the deadline", x.nextDeadline(), 10);
        x.pass(1);
        Due.is("after it", x.nextDeadline(), 60);
    }

    private static void noDeadline() {
        Due.sentence("-1 if all are final or if there are none.");
        ChargebackProcessor x = Due.with(SETUP);
        Due.is("none", x.nextDeadline(), -1);
        x.purchase(0, 0, 100);
        Due.is("none, and a purchase", x.nextDeadline(), -1);
        x.file(0, 0, 1);
        x.file(0, 0, 1);
        x.accept(0);
        Due.is("one of two is final", x.nextDeadline(), 60);
        x.represent(1, 1);
        x.accept(1);
        Due.is("all are final", x.nextDeadline(), -1);
        x.undo();
        Due.is("one is open again", x.nextDeadline(), 60);
    }

    private static void exposure() {
        Due.sentence("Returns the sum of the amounts of the disputes with purchases of this merchant that are not final.");
        ChargebackProcessor x = Due.with(SETUP);
        Due.is("none", x.exposure(0), 0);
        x.purchase(0, 0, 99999);
        x.purchase(1, 0, 99999);
        x.purchase(0, 1, 99999);
        Due.is("purchases alone", x.exposure(0), 0);
        x.file(0, 0, 99999);
        x.file(1, 0, 5);
        x.file(2, 0, 70);
        Due.is("two disputes", x.exposure(0), 100004);
        Due.is("the other merchant", x.exposure(1), 70);
        Due.is("the third merchant", x.exposure(2), 0);
        x.represent(1, 1);
        Due.is("REPRESENTED", x.exposure(0), 100004);
        x.escalate(1);
        Due.is("ESCALATED", x.exposure(0), 100004);
        x.contest(1, 2);
        Due.is("ARBITRATION", x.exposure(0), 100004);
        x.pass(11);
        Due.is("MERCHANT_WON", x.exposure(0), 99999);
        x.accept(0);
        Due.is("ISSUER_WON", x.exposure(0), 0);
        ChargebackProcessor y = Due.with(SETUP);
        for (int i = 0; i < 20; i++) {
            y.purchase(0, 2, 99999);
            y.file(i, 0, 99999);
        }
        Due.is("the greatest exposure", y.exposure(2), 20 * 99999);
        Due.is("no exposure", y.exposure(1), 0);
    }

    private static void settled() {
        Due.sentence("Predicts an account: the account that a merchant would have if days passed until all disputes are final and nobody did anything else.");
        ChargebackProcessor x = Due.with(SETUP);
        Due.is("nothing", x.settled(0), 0);
        x.purchase(0, 0, 1000);
        Due.is("no disputes", x.settled(0), 1000);
        x.file(0, 0, 600);
        Due.is("FILED", x.settled(0), 1000 - 600 - 7);
        x.represent(0, 1);
        Due.is("REPRESENTED", x.settled(0), 1000);
        x.escalate(0);
        Due.is("ESCALATED", x.settled(0), 1000 - 600 - 7);
        x.contest(0, 0);
        Due.is("ARBITRATION, one type too few,", x.settled(0), 1000 - 600 - 7 - 90);
        x.undo();
        x.contest(0, 2);
        Due.is("ARBITRATION, just enough,", x.settled(0), 1000);
        x.pass(11);
        Due.is("MERCHANT_WON", x.settled(0), 1000);
        x.file(0, 0, 1);
        x.accept(1);
        Due.is("ISSUER_WON", x.settled(0), 1000 - 1 - 7);
        Due.is("another merchant", x.settled(1), 0);
    }

    private static void settledBeyondTheLastDay() {
        Due.sentence("if days passed until all disputes are final");
        ChargebackProcessor x = Due.with(SETUP);
        for (int i = 0; i < 99; i++) {
            x.pass(100);
        }
        x.pass(99);
        x.purchase(0, 0, 1000);
        x.file(0, 0, 600);
        x.file(0, 1, 200);
        x.represent(1, 1);
        Due.is("on the last day", x.settled(0), 1000 - 600 - 7);
        Due.is("today stays", x.today(), 9999);
    }

    private static void settledAsPassed() {
        Due.sentence("Predicts an account:");
        for (int round = 0; round < 6; round++) {
            ChargebackProcessor x = mixed(round);
            int[] due = {x.settled(0), x.settled(1), x.settled(2)};
            Due.same("nothing changes", Twins.seen(x), Twins.seen(mixed(round)));
            for (int i = 0; x.nextDeadline() >= 0 && i < 10; i++) {
                x.pass(50);
            }
            for (int i = 0; i < 3; i++) {
                Due.is("the account of merchant " + i + " as predicted", x.merchantAccount(i), due[i]);
                Due.is("and as settled then", x.settled(i), due[i]);
            }
        }
    }

    /** Disputes of all merchants in all states, other ones in each round. */
    private static ChargebackProcessor mixed(int round) {
        ChargebackProcessor x = Due.with(SETUP);
        for (int i = 0; i < 18; i++) {
            x.purchase(i % 2, i % 3, 1000 + i);
            x.file(i, i % 2, 100 + 7 * i);
            int stage = (i + round) % 6;
            if (stage >= 1) {
                x.represent(i, i % 4 == 0 ? 2 : 1);
            }
            if (stage >= 2 && stage <= 4) {
                x.escalate(i);
            }
            if (stage == 3 || stage == 4) {
                x.contest(i, i % 2 * 4);
            }
            if (stage == 5) {
                x.accept(i);
            }
        }
        return x;
    }
}
