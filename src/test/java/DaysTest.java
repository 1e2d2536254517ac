/** Promises 10, 17, 23 to 27 and 34: the passing of days, deadlines, the rate and predictions. */
public final class DaysTest {
    public static void main(String[] args) {
        wrongDays();
        lastDay();
        deadlines();
        nextDeadline();
        arbitrations();
        rates();
        rateDays();
        watching();
        settled();
        settledAtTheEnd();
        Due.end();
    }

    private static void wrongDays() {
        ChargebackProcessor x = new ChargebackProcessor();
        Due.argumentThrow("pass(0)", () -> x.pass(0));
        Due.argumentThrow("pass(-1)", () -> x.pass(-1));
        Due.argumentThrow("pass(101)", () -> x.pass(101));
        Due.argumentThrow("pass(the greatest)", () -> x.pass(Integer.MAX_VALUE));
        Due.argumentThrow("pass(the smallest)", () -> x.pass(Integer.MIN_VALUE));
        Due.is("today", x.today(), 0);
        Due.is("no change", x.undo(), -1);
        Due.is("pass(1)", x.pass(1), 0);
        Due.is("today", x.today(), 1);
        Due.is("pass(100)", x.pass(100), 0);
        Due.is("today", x.today(), 101);
    }

    private static void lastDay() {
        ChargebackProcessor x = new ChargebackProcessor();
        for (int i = 0; i < 99; i++) {
            x.pass(100);
        }
        Due.stateThrow("to day 10000", () -> x.pass(100));
        Due.argumentThrow("argument before state", () -> x.pass(101));
        Due.is("today", x.today(), 9900);
        Due.is("to day 9999", x.pass(99), 0);
        Due.stateThrow("a day more", () -> x.pass(1));
        Due.is("today", x.today(), 9999);
        Due.is("a purchase on the last day", x.purchase(0, 0, 1), 0);
    }

    private static void deadlines() {
        ChargebackProcessor x = Due.with("fees 3 9;reason 1 9 2 4 1;");
        x.purchase(0, 0, 100);
        x.file(0, 0, 10);
        x.file(0, 0, 20);
        x.file(0, 0, 30);
        x.represent(1, 1);
        x.represent(2, 1);
        x.escalate(2);
        Due.is("until the deadline", x.pass(2), 0);
        Due.is("FILED still", x.state(0), ChargebackProcessor.FILED);
        Due.is("the day after two deadlines", x.pass(1), 2);
        Due.is("FILED became", x.state(0), ChargebackProcessor.ISSUER_WON);
        Due.is("ESCALATED became", x.state(2), ChargebackProcessor.ISSUER_WON);
        Due.is("REPRESENTED stays", x.state(1), ChargebackProcessor.REPRESENTED);
        Due.is("a final deadline", x.deadline(0), -1);
        Due.is("an open deadline", x.deadline(1), 4);
        Due.is("until the later deadline", x.pass(1), 0);
        Due.is("the day after it", x.pass(1), 1);
        Due.is("REPRESENTED became", x.state(1), ChargebackProcessor.MERCHANT_WON);
        Due.is("the merchant", x.merchantAccount(0), 100 - 10 - 30 - 9 + 3);
        Due.is("the issuer", x.issuerAccount(0), -100 + 10 + 30 - 3);
        Due.is("the network", x.networkAccount(), 9);
        Due.is("nothing becomes final twice", x.pass(50), 0);
    }

    private static void nextDeadline() {
        ChargebackProcessor x = Due.with("reason 1 99 20 4 1;reason 2 99 10 4 1;reason 3 99 15 4 1;");
        Due.is("no dispute", x.nextDeadline(), -1);
        x.purchase(0, 0, 100);
        x.pass(1);
        x.file(0, 0, 10);
        Due.is("one", x.nextDeadline(), 21);
        x.file(0, 1, 10);
        x.file(0, 2, 10);
        Due.is("the smallest of three", x.nextDeadline(), 11);
        x.accept(1);
        Due.is("not that of a final one", x.nextDeadline(), 16);
        x.accept(2);
        x.represent(0, 1);
        Due.is("the new one", x.nextDeadline(), 5);
        x.accept(0);
        Due.is("all are final", x.nextDeadline(), -1);
    }

    private static void arbitrations() {
        ChargebackProcessor x = Due.with("fees 3 50;reason 1 9 9 9 2 needs 1;");
        x.purchase(0, 0, 100);
        for (int i = 0; i < 4; i++) {
            x.file(0, 0, 10);
            x.represent(i, 4);
            x.escalate(i);
        }
        x.contest(0, 2);
        x.contest(1, 1);
        x.contest(2, 3);
        Due.is("the answer window of the last one", x.pass(10), 1);
        Due.is("before the decisions", x.state(0), ChargebackProcessor.ARBITRATION);
        Due.is("the decisions", x.pass(1), 3);
        Due.is("needed and enough", x.state(0), ChargebackProcessor.MERCHANT_WON);
        Due.is("not what is needed", x.state(1), ChargebackProcessor.ISSUER_WON);
        Due.is("more than enough", x.state(2), ChargebackProcessor.MERCHANT_WON);
        Due.is("the merchant", x.merchantAccount(0), 100 - 20 - 2 * 3 - 50);
        Due.is("the issuer", x.issuerAccount(0), -100 + 20 - 2 * 3 - 2 * 50);
        Due.is("the network", x.networkAccount(), 4 * 3 + 3 * 50);
    }

    private static void rates() {
        ChargebackProcessor x = Due.with("parties 1 2;reason 1 99 9 9 1;");
        x.purchase(0, 0, 100);
        x.purchase(0, 0, 100);
        x.purchase(0, 0, 100);
        x.purchase(0, 1, 100);
        Due.is("no dispute", x.rate(0), 0);
        x.file(0, 0, 10);
        Due.is("rounded down", x.rate(0), 333);
        x.file(2, 0, 10);
        Due.is("two of three", x.rate(0), 666);
        Due.is("of the other merchant", x.rate(1), 0);
        x.file(3, 0, 10);
        x.file(3, 0, 10);
        Due.is("two of one", x.rate(1), 2000);
        x.accept(0);
        Due.is("final ones count", x.rate(0), 666);
        Due.indexThrow("rate(2)", () -> x.rate(2));
        Due.indexThrow("rate(-1)", () -> x.rate(-1));
    }

    private static void rateDays() {
        ChargebackProcessor x = Due.with("reason 1 99 60 9 1;");
        x.purchase(0, 0, 100);
        x.purchase(0, 0, 100);
        x.file(0, 0, 10);
        x.pass(29);
        Due.is("day 0 on day 29", x.rate(0), 500);
        x.purchase(0, 0, 100);
        Due.is("one of three", x.rate(0), 333);
        x.pass(1);
        Due.is("day 0 on day 30", x.rate(0), 0);
        x.file(0, 0, 10);
        x.file(1, 0, 10);
        Due.is("the day of the dispute, not of its purchase", x.rate(0), 2000);
        x.pass(29);
        Due.is("disputes of day 30 without purchases on day 59", x.rate(0), 0);
        x.purchase(0, 0, 100);
        Due.is("and with one", x.rate(0), 2000);
    }

    private static void watching() {
        watched("limit 500;", 500, false);
        watched("limit 499;", 500, true);
        watched("limit 0;", 500, true);
        watched("limit 9999;", 500, false);
        watched("", 500, true);
        ChargebackProcessor x = Due.with("reason 1 9 9 9 9;");
        for (int i = 0; i < 10; i++) {
            x.purchase(0, 0, 1);
        }
        Due.is("no dispute is not watched", x.isWatched(0), false);
        x.file(0, 0, 1);
        Due.is("a rate of 100", x.rate(0), 100);
        Due.is("is not above the usual limit", x.isWatched(0), false);
        x.undo();
        x.undo();
        x.file(0, 0, 1);
        Due.is("a rate of 111", x.rate(0), 111);
        Due.is("is above it", x.isWatched(0), true);
        Due.indexThrow("isWatched(1)", () -> x.isWatched(1) ? 1 : 0);
        Due.indexThrow("isWatched(-1)", () -> x.isWatched(-1) ? 1 : 0);
        ChargebackProcessor y = Due.with("limit 0;");
        Due.is("0 is not greater than 0", y.isWatched(0), false);
    }

    private static void watched(String limit, int rate, boolean due) {
        ChargebackProcessor x = Due.with("reason 1 9 9 9 9;" + limit);
        x.purchase(0, 0, 1);
        x.purchase(0, 0, 1);
        x.file(0, 0, 1);
        Due.is("rate", x.rate(0), rate);
        Due.is("isWatched with \"" + limit + "\"", x.isWatched(0), due);
    }

    private static void settled() {
        ChargebackProcessor x = Due.with("parties 1 2;fees 7 90;reason 1 99 60 60 2 needs 1;");
        x.purchase(0, 0, 1000);
        x.purchase(0, 1, 500);
        Due.is("no dispute", x.settled(0), 1000);
        x.file(0, 0, 10);
        Due.is("FILED: the issuer keeps it", x.settled(0), 983);
        x.represent(0, 1);
        Due.is("REPRESENTED: the merchant keeps it", x.settled(0), 1000);
        x.escalate(0);
        Due.is("ESCALATED: the issuer keeps it", x.settled(0), 983);
        x.contest(0, 2);
        Due.is("ARBITRATION: the merchant will win", x.settled(0), 1000);
        Due.is("the account is another one", x.merchantAccount(0), 983);
        x.file(0, 0, 20);
        x.represent(1, 1);
        x.escalate(1);
        x.contest(1, 4);
        Due.is("ARBITRATION: the merchant will lose", x.settled(0), 1000 - 20 - 7 - 90);
        x.file(1, 0, 30);
        Due.is("the other merchant", x.settled(1), 500 - 30 - 7);
        Due.is("exposure(0)", x.exposure(0), 30);
        Due.is("exposure(1)", x.exposure(1), 30);
        long before = x.checksum();
        int first = x.settled(0);
        int second = x.settled(1);
        Due.is("nothing changes", x.checksum(), before);
        x.pass(100);
        Due.is("it comes so", x.merchantAccount(0), first);
        Due.is("for the other one too", x.merchantAccount(1), second);
        Due.is("all are final", x.settled(0), first);
        Due.is("no exposure", x.exposure(0), 0);
        Due.indexThrow("settled(2)", () -> x.settled(2));
        Due.indexThrow("settled(-1)", () -> x.settled(-1));
        Due.indexThrow("exposure(2)", () -> x.exposure(2));
        Due.indexThrow("exposure(-1)", () -> x.exposure(-1));
    }

    /** The prediction does not ask whether the days are there. */
    private static void settledAtTheEnd() {
        ChargebackProcessor x = Due.with("fees 7 90;reason 1 99 60 60 2 needs 1;");
        for (int i = 0; i < 99; i++) {
            x.pass(100);
        }
        x.pass(99);
        x.purchase(0, 0, 100);
        x.file(0, 0, 10);
        Due.is("a deadline beyond the last day", x.deadline(0), 10059);
        x.represent(0, 1);
        Due.is("settled", x.settled(0), 100);
    }
}
