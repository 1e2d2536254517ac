/** Promises 20 to 22: the score, and what would win an arbitration. */
public final class ScoreTest {
    public static void main(String[] args) {
        expressions();
        limitedResults();
        names();
        laterPurchaseAndReason();
        withoutStatement();
        ownEvidence();
        wouldWin();
        bestEvidence();
        bestEvidenceOfAllSets();
        Due.end();
    }

    private static void expressions() {
        score("7", 7);
        score("2+3*4", 14);
        score("(2+3)*4", 20);
        score("20-5-3", 12);
        score("20-(5-3)", 18);
        score("100/7/3", 4);
        score("100/(7/3)", 50);
        score("2*7/3", 4);
        score("7/3*2", 4);
        score("0-7/2", -3);
        score("(0-7)/2", -3);
        score("7/(0-2)", -3);
        score("(0-7)/(0-2)", 3);
        score("5/0", 0);
        score("5/(3-3)+1", 1);
        score("0/0", 0);
        score("(0-5)/0", 0);
        score("1+(2*(3+(4*(5+6))))", 95);
        // As many operands wait as ever can.
        score("1+2*(1+2*(1+2*(1+2*(1+2*3))))", 127);
        score("9-8/(7-6/(5-4/(3-2/(1-9/8))))", 9 - 8 / (7 - 6 / (5 - 4 / 3)));
        score("0001", 1);
    }

    private static void limitedResults() {
        score("9999*9999", 1000000);
        score("9999*9999*9999", 1000000);
        score("0-9999*9999", -1000000);
        score("(0-9999)*9999", -1000000);
        score("9999*9999+1", 1000000);
        score("9999*9999+1-1", 999999);
        score("9999*9999-1+5-1", 999999);
        score("0-9999*9999-1", -1000000);
        score("0-9999*9999-1+1", -999999);
        score("1000*1000", 1000000);
        score("1000*999+999", 999999);
        score("9999*9999*(0-9999)", -1000000);
        score("9999*9999*(9999*9999)/9999", 100);
        score("(0-9999*9999)*(9999*9999)", -1000000);
        score("9999*9999/9999", 100);
    }

    private static void names() {
        ChargebackProcessor x = dispute("score count*1000+needed*100+days*10+amount;", "reason 1 9 9 9 0 needs 1 3 5;", 4, 7);
        Due.is("nothing in the set", x.score(0), 47);
        x.represent(0, 0b101011);
        Due.is("four types, of which three are needed", x.score(0), 4347);
        ChargebackProcessor y = dispute("score amount;", "reason 1 9 9 9 0;", 0, 99999);
        Due.is("the greatest amount", y.score(0), 99999);
        ChargebackProcessor z = dispute("score days;", "reason 1 200 9 9 0;", 100, 5);
        Due.is("days until the filing", z.score(0), 100);
        z.pass(1);
        Due.is("days do not grow after it", z.score(0), 100);
    }

    /** Days from a purchase that is not of day 0, and a reason that is not the first. */
    private static void laterPurchaseAndReason() {
        ChargebackProcessor x = Due.with("score days*10+needed;reason 1 9 9 9 0 needs 0;reason 2 9 9 9 51 needs 3 4;");
        x.purchase(0, 0, 10);
        x.pass(7);
        x.purchase(0, 0, 10);
        x.pass(5);
        x.file(1, 1, 4);
        Due.is("score", x.score(0), 50);
        Due.is("represent with what the other reason needs", x.represent(0, 1), 50);
        Due.is("wouldWin with one of two", x.wouldWin(0, 8), false);
        Due.is("wouldWin with both", x.wouldWin(0, 24), true);
        Due.is("bestEvidence", x.bestEvidence(0), 25);
        x.file(1, 0, 4);
        Due.is("bestEvidence for the other reason", x.bestEvidence(1), 1);
    }

    private static void withoutStatement() {
        ChargebackProcessor x = dispute("", "reason 1 9 9 9 0 needs 7;", 0, 5);
        Due.is("count at first", x.score(0), 0);
        Due.is("represent", x.represent(0, 0b1101), 3);
        Due.is("count", x.score(0), 3);
    }

    private static void ownEvidence() {
        ChargebackProcessor x = dispute("", "reason 1 9 9 9 0;", 0, 5);
        x.represent(0, 3);
        x.escalate(0);
        x.contest(0, 6);
        Due.is("the set after the contest", x.score(0), 3);
        x.pass(11);
        Due.is("the set of a final dispute", x.score(0), 3);
        Due.indexThrow("score(1)", () -> x.score(1));
        Due.indexThrow("score(-1)", () -> x.score(-1));
    }

    private static void wouldWin() {
        ChargebackProcessor x = dispute("", "reason 1 9 9 9 3 needs 0 2;", 0, 5);
        Due.is("needed, score at the threshold", x.wouldWin(0, 0b10000101), true);
        Due.is("needed, score below", x.wouldWin(0, 0b101), false);
        Due.is("one needed is missing", x.wouldWin(0, 0b11111110), false);
        Due.is("the other one is missing", x.wouldWin(0, 0b11111011), false);
        Due.is("nothing", x.wouldWin(0, 0), false);
        Due.is("everything", x.wouldWin(0, 255), true);
        Due.is("the set stays as it is", x.evidence(0), 0);
        Due.argumentThrow("evidence 256", () -> x.wouldWin(0, 256) ? 1 : 0);
        Due.argumentThrow("evidence -1", () -> x.wouldWin(0, -1) ? 1 : 0);
        Due.indexThrow("dispute 1", () -> x.wouldWin(1, 0) ? 1 : 0);
        Due.indexThrow("dispute -1, evidence -1", () -> x.wouldWin(-1, -1) ? 1 : 0);
        x.represent(0, 255);
        Due.is("another set than its own", x.wouldWin(0, 1), false);
        x.accept(0);
        Due.is("whatever its state", x.wouldWin(0, 7), true);
        ChargebackProcessor y = dispute("score 0-1;", "reason 1 9 9 9 0;", 0, 5);
        Due.is("a negative score", y.wouldWin(0, 255), false);
    }

    private static void bestEvidence() {
        best("needed and the lowest further type", "", "reason 1 9 9 9 3 needs 0 2;", 0, 0b111);
        best("its own evidence is kept", "", "reason 1 9 9 9 3 needs 0 2;", 0b10000000, 0b10000101);
        best("nothing is wanted", "", "reason 1 9 9 9 0;", 0, 0);
        best("enough already", "", "reason 1 9 9 9 2;", 0b11000000, 0b11000000);
        best("all types", "", "reason 1 9 9 9 8;", 0b100, 255);
        best("more than there are", "", "reason 1 9 9 9 9;", 0, -1);
        best("fewer types score more", "score 4-count;", "reason 1 9 9 9 3;", 0, 0);
        best("too many already", "score 4-count;", "reason 1 9 9 9 3;", 0b11, -1);
        best("five exactly", "score 1/(1+(count-5)*(count-5));", "reason 1 9 9 9 1 needs 7;", 0b10000, 0b10010111);
        best("not one and not two, but four", "score 1/(1+(count-4)*(count-4));", "reason 1 9 9 9 1;", 0, 0b1111);
        ChargebackProcessor x = dispute("", "reason 1 9 9 9 3;", 0, 5);
        Due.indexThrow("bestEvidence(1)", () -> x.bestEvidence(1));
    }

    /** Against the document's words: every set is tried. */
    private static void bestEvidenceOfAllSets() {
        String[] scores = {"", "score count*needed;", "score 9-count;", "score 6/(count-3);", "score (count-2)*(6-count)+needed;"};
        String[] needs = {"", " needs 3", " needs 6 1", " needs 0 4 7"};
        for (String score : scores) {
            for (String need : needs) {
                for (int threshold = 0; threshold <= 9; threshold++) {
                    ChargebackProcessor x = dispute(score, "reason 1 9 9 9 " + threshold + need + ";", 0, 5);
                    everySet(x, 0);
                    x.represent(0, 0b100010);
                    everySet(x, 0b100010);
                }
            }
        }
    }

    private static void everySet(ChargebackProcessor x, int own) {
        int best = -1;
        for (int set = 0; set <= 255; set++) {
            boolean fewer = best < 0 || Integer.bitCount(set) < Integer.bitCount(best);
            if ((set & own) == own && fewer && x.wouldWin(0, set)) {
                best = set;
            }
        }
        Due.is("the best of all sets", x.bestEvidence(0), best);
    }

    private static void best(String what, String score, String reason, int evidence, int due) {
        ChargebackProcessor x = dispute(score, reason, 0, 5);
        if (evidence != 0) {
            x.represent(0, evidence);
        }
        Due.is(what, x.bestEvidence(0), due);
        Due.is(what + ": its own evidence", x.evidence(0), evidence);
    }

    private static void score(String expression, int due) {
        Due.is("score " + expression, dispute("score " + expression + ";", "reason 1 9 9 9 0;", 0, 5).score(0), due);
    }

    private static ChargebackProcessor dispute(String score, String reason, int days, int amount) {
        ChargebackProcessor x = Due.with(score + reason);
        x.purchase(0, 0, amount);
        if (days > 0) {
            x.pass(days);
        }
        x.file(0, 0, amount);
        return x;
    }
}
