import java.util.Random;

/** The edges of "Conventions", "Parties" and "Reasons" in the document. */
public final class EdgesOfPartiesTest {
    public static void main(String[] args) {
        indexes();
        firstDay();
        evidenceTypes();
        parties();
        accounts();
        payments();
        sumOfAccounts();
        amounts();
        purchases();
        reasons();
        codes();
        filingWindow();
        answerWindow();
        reviewWindow();
        threshold();
        Due.end();
    }

    private static void indexes() {
        Due.sentence("Issuers, merchants, reasons, purchases and disputes have indexes from 0 in the order in which they are declared or made.");
        ChargebackProcessor x = Due.with("parties 4 4;reason 9 9 11 9 9;reason 0 9 12 9 9;reason 5 9 13 9 9;");
        Due.is("the first reason", x.reasonOf(9), 0);
        Due.is("the second reason", x.reasonOf(0), 1);
        Due.is("the third reason", x.reasonOf(5), 2);
        for (int i = 0; i < 4; i++) {
            Due.is("purchase " + i, x.purchase(i, 3 - i, 100 + i), i);
        }
        for (int i = 0; i < 4; i++) {
            Due.is("issuer " + i, x.issuerAccount(i), -100 - i);
            Due.is("merchant " + (3 - i), x.merchantAccount(3 - i), 100 + i);
        }
        for (int i = 0; i < 3; i++) {
            Due.is("dispute " + i, x.file(3 - i, 2 - i, 50 + i), i);
        }
        for (int i = 0; i < 3; i++) {
            Due.is("the purchase of dispute " + i, x.disputed(3 - i), 50 + i);
            Due.is("the reason of dispute " + i, x.deadline(i), 13 - i);
        }
    }

    private static void firstDay() {
        Due.sentence("Days are numbers; today is day 0 at first.");
        ChargebackProcessor x = new ChargebackProcessor();
        Due.is("today", x.today(), 0);
        x.pass(1);
        Due.is("today then", x.today(), 1);
    }

    private static void evidenceTypes() {
        Due.sentence("Sets of evidence are bit sets: bit k stands for evidence of type k (0 to 7).");
        for (int type = 0; type <= 7; type++) {
            ChargebackProcessor x = Due.with("reason 1 9 9 9 0 needs " + type + ";");
            x.purchase(0, 0, 5);
            x.file(0, 0, 5);
            Due.is("type " + type + " is needed", x.bestEvidence(0), 1 << type);
            Due.is("it alone", x.wouldWin(0, 1 << type), true);
            Due.is("all but it", x.wouldWin(0, 255 - (1 << type)), false);
        }
    }

    private static void parties() {
        Due.sentence("There are 1 to 4 issuers and 1 to 4 merchants (1 and 1 without statements).");
        Texts.bad("parties 0 1;", Texts.RANGE, 8);
        Texts.bad("parties 1 0;", Texts.RANGE, 10);
        Texts.bad("parties 5 4;", Texts.RANGE, 8);
        Texts.bad("parties 4 5;", Texts.RANGE, 10);
        for (int count = 1; count <= 4; count++) {
            ChargebackProcessor x = Due.with("parties " + count + " " + (5 - count) + ";");
            countsAre(x, count, 5 - count);
        }
        countsAre(new ChargebackProcessor(), 1, 1);
        countsAre(Due.with("limit 1;"), 1, 1);
        ChargebackProcessor y = Due.with("parties 4 4;");
        Due.load(y, "fees 1 1;");
        countsAre(y, 1, 1);
    }

    private static void countsAre(ChargebackProcessor x, int issuers, int merchants) {
        Due.is("issuerCount", x.issuerCount(), issuers);
        Due.is("merchantCount", x.merchantCount(), merchants);
        Due.is("the last of each", x.purchase(issuers - 1, merchants - 1, 1), 0);
        Due.indexThrow("an issuer too many", () -> x.purchase(issuers, 0, 1));
        Due.indexThrow("a merchant too many", () -> x.purchase(0, merchants, 1));
    }

    private static void accounts() {
        Due.sentence("Each issuer, each merchant and the network have an account, which is 0 at first and may become negative.");
        ChargebackProcessor x = Due.with("parties 4 4;fees 999 999;reason 1 9 9 9 9999;");
        for (int i = 0; i < 4; i++) {
            Due.is("issuer " + i, x.issuerAccount(i), 0);
            Due.is("merchant " + i, x.merchantAccount(i), 0);
        }
        Due.is("the network", x.networkAccount(), 0);
        for (int i = 0; i < 24; i++) {
            x.purchase(3, 2, 99999);
        }
        Due.is("a very negative issuer", x.issuerAccount(3), -24 * 99999);
        Due.is("a very rich merchant", x.merchantAccount(2), 24 * 99999);
        ChargebackProcessor y = Due.with("fees 999 999;reason 1 9 9 9 9999;");
        y.purchase(0, 0, 20);
        for (int i = 0; i < 20; i++) {
            y.file(0, 0, 1);
        }
        Due.is("a negative merchant", y.merchantAccount(0), -20 * 999);
        Due.is("a rich network", y.networkAccount(), 20 * 999);
        Due.is("an issuer back at 0", y.issuerAccount(0), 0);
    }

    private static void payments() {
        Due.sentence("To pay an amount from one account to another one means to subtract it from the one and to add it to the other.");
        ChargebackProcessor y = new ChargebackProcessor();
        y.purchase(0, 0, 12);
        Due.is("subtracted from the one", y.issuerAccount(0), -12);
        Due.is("added to the other", y.merchantAccount(0), 12);
        Due.sentence("When it is made, the issuer pays the amount to the merchant.");
        ChargebackProcessor x = Due.with("parties 2 2;");
        x.purchase(1, 0, 77);
        x.purchase(1, 1, 11);
        Due.is("the issuer that pays", x.issuerAccount(1), -88);
        Due.is("the other issuer", x.issuerAccount(0), 0);
        Due.is("the first merchant", x.merchantAccount(0), 77);
        Due.is("the second merchant", x.merchantAccount(1), 11);
        Due.is("the network", x.networkAccount(), 0);
    }

    private static void sumOfAccounts() {
        Due.sentence("The sum of all accounts is always 0.");
        for (int seed = 0; seed < 50; seed++) {
            Random random = new Random(seed);
            ChargebackProcessor x = Due.with("parties 3 4;fees 999 998;reason 1 90 9 9 2 needs 1;reason 2 90 3 3 0;");
            for (int i = 0; i < 45; i++) {
                int dispute = x.disputeCount() - 1 - random.nextInt(3);
                int set = 1 + random.nextInt(255);
                int which = random.nextInt(7);
                Due.outcome(() -> which == 0 ? x.purchase(random.nextInt(3), random.nextInt(4), 1 + random.nextInt(99999))
                        : which == 1 ? x.file(random.nextInt(x.purchaseCount() + 1), random.nextInt(2), 1 + random.nextInt(999))
                        : which == 2 ? x.represent(dispute, set)
                        : which == 3 ? x.escalate(dispute)
                        : which == 4 ? x.contest(dispute, set)
                        : which == 5 ? x.accept(dispute)
                        : x.pass(1 + random.nextInt(5)));
                long sum = x.networkAccount();
                for (int k = 0; k < 3; k++) {
                    sum += x.issuerAccount(k);
                }
                for (int k = 0; k < 4; k++) {
                    sum += x.merchantAccount(k);
                }
                Due.is("the sum in run " + seed, sum, 0);
            }
        }
    }

    private static void amounts() {
        Due.sentence("A purchase has an issuer, a merchant, an amount (1 to 99999) and a day.");
        for (int amount : new int[] {1, 2, 99998, 99999}) {
            ChargebackProcessor x = Due.with("reason 1 0 9 9 0;");
            x.pass(1);
            Due.is("a purchase of " + amount, x.purchase(0, 0, amount), 0);
            Due.is("its amount", x.merchantAccount(0), amount);
            Due.argumentThrow("more than its amount", () -> x.file(0, 0, amount + 1));
            Due.is("its whole amount, on its day", x.file(0, 0, amount), 0);
        }
        for (int amount : new int[] {0, -1, 100000, 100001, Integer.MAX_VALUE, Integer.MIN_VALUE}) {
            Twins.refused("a purchase of " + amount, Due.ARGUMENT, EdgesOfPartiesTest::shop, x -> x.purchase(0, 0, amount));
        }
    }

    private static void purchases() {
        Due.sentence("There are at most 24 purchases.");
        ChargebackProcessor x = shop();
        for (int i = 1; i < 24; i++) {
            Due.is("purchase " + i, x.purchase(0, 0, i), i);
        }
        Due.is("purchaseCount", x.purchaseCount(), 24);
        Twins.refused("the 25th purchase", Due.STATE, () -> {
            ChargebackProcessor y = shop();
            for (int i = 1; i < 24; i++) {
                y.purchase(0, 0, i);
            }
            return y;
        }, y -> y.purchase(0, 0, 1));
        x.undo();
        Due.is("room again after undo", x.purchase(0, 0, 9), 23);
        Due.stateThrow("and no more", () -> x.purchase(0, 0, 9));
        x.load(0);
        Due.is("room again after load", x.purchase(0, 0, 9), 0);
    }

    /** One purchase on day 2, and a text that waits. */
    private static ChargebackProcessor shop() {
        ChargebackProcessor x = Due.with("fees 2 3;reason 1 60 9 9 1;reason 2 0 9 9 1;");
        x.pass(2);
        x.purchase(0, 0, 50);
        Due.append(x, "parties 3 2;reason 8 1 1 1 1;");
        return x;
    }

    private static void reasons() {
        Due.sentence("There are at most 8 reasons.");
        Texts.good(Texts.reasons(8), 8);
        Texts.bad(Texts.reasons(9), Texts.MANY, Texts.reasons(8).length());
        ChargebackProcessor x = Due.with(Texts.reasons(8));
        x.purchase(0, 0, 8);
        for (int i = 0; i < 8; i++) {
            Due.is("reasonOf(" + i + ")", x.reasonOf(i), i);
            Due.is("a dispute for reason " + i, x.file(0, i, 1), i);
        }
        x.purchase(0, 0, 8);
        Due.indexThrow("a dispute for reason 8", () -> x.file(1, 8, 1));
    }

    private static void codes() {
        Due.sentence("A reason has a code (0 to 99, unlike those of the other reasons),");
        ChargebackProcessor x = Due.with("reason 99 1 1 1 1;reason 0 1 1 1 1;");
        Due.is("reasonOf(99)", x.reasonOf(99), 0);
        Due.is("reasonOf(0)", x.reasonOf(0), 1);
        Texts.bad("reason 100 1 1 1 1;", Texts.RANGE, 7);
        Texts.bad("reason 99 1 1 1 1;reason 99 1 1 1 1;", Texts.RANGE, 25);
    }

    private static void filingWindow() {
        Due.sentence("a filing window (0 to 200 days),");
        Texts.bad("reason 1 201 1 1 1;", Texts.RANGE, 9);
        for (int window : new int[] {0, 1, 199, 200}) {
            ChargebackProcessor x = Due.with("reason 1 " + window + " 1 1 1;");
            x.pass(7);
            x.purchase(0, 0, 5);
            passAll(x, window);
            Due.is("the last day of " + window, x.file(0, 0, 1), 0);
            x.pass(1);
            Due.stateThrow("the day after " + window + " days", () -> x.file(0, 0, 1));
        }
    }

    private static void answerWindow() {
        Due.sentence("an answer window (1 to 60 days),");
        Texts.bad("reason 1 1 0 1 1;", Texts.RANGE, 11);
        Texts.bad("reason 1 1 61 1 1;", Texts.RANGE, 11);
        for (int window : new int[] {1, 2, 59, 60}) {
            ChargebackProcessor x = Due.with("reason 1 1 " + window + " 30 1;");
            x.purchase(0, 0, 5);
            x.file(0, 0, 1);
            Due.is("the deadline", x.deadline(0), window);
            Due.is("the last day", x.pass(window), 0);
            Due.is("the day after it", x.pass(1), 1);
        }
    }

    private static void reviewWindow() {
        Due.sentence("a review window (1 to 60 days),");
        Texts.bad("reason 1 1 1 0 1;", Texts.RANGE, 13);
        Texts.bad("reason 1 1 1 61 1;", Texts.RANGE, 13);
        for (int window : new int[] {1, 2, 59, 60}) {
            ChargebackProcessor x = Due.with("reason 1 1 30 " + window + " 1;");
            x.purchase(0, 0, 5);
            x.file(0, 0, 1);
            x.represent(0, 1);
            Due.is("the deadline", x.deadline(0), window);
            Due.is("the last day", x.pass(window), 0);
            Due.is("the day after it", x.pass(1), 1);
        }
    }

    private static void threshold() {
        Due.sentence("a threshold (0 to 9999),");
        Texts.bad("reason 1 1 1 1 10000;", Texts.RANGE, 15);
        winsWith("0", 0, true);
        winsWith("0-1", 0, false);
        winsWith("1", 1, true);
        winsWith("0", 1, false);
        winsWith("9998", 9998, true);
        winsWith("9998", 9999, false);
        winsWith("9999", 9999, true);
        winsWith("9999+1", 9999, true);
    }

    private static void winsWith(String score, int threshold, boolean due) {
        ChargebackProcessor x = Due.with("reason 1 1 1 1 " + threshold + ";score " + score + ";");
        x.purchase(0, 0, 5);
        x.file(0, 0, 1);
        Due.is("score " + score + " at " + threshold, x.wouldWin(0, 255), due);
    }

    private static void passAll(ChargebackProcessor x, int days) {
        for (int left = days; left > 0; left -= 100) {
            x.pass(Math.min(left, 100));
        }
    }
}
