/** The edges of "Score" in the document, and promises 20 to 22. */
public final class EdgesOfScoreTest {
    public static void main(String[] args) {
        countAndNeeded();
        amount();
        days();
        truncation();
        divisionByZero();
        upperBound();
        lowerBound();
        eachOperation();
        withoutStatement();
        ownSet();
        wouldWin();
        whateverState();
        bestContains();
        fewestTypes();
        smallestNumber();
        noBest();
        everySet();
        Due.end();
    }

    /** Every set of evidence. */
    private static void countAndNeeded() {
        Due.sentence("In the expression, count is the number of types in the set, needed is the number of types in the set that the reason needs,");
        for (int set = 1; set <= 255; set++) {
            ChargebackProcessor x = dispute("count*10+needed", "0 needs 0 3 7", 0, 5);
            int due = 10 * Integer.bitCount(set) + Integer.bitCount(set & 0b10001001);
            Due.is("the score of the empty set", x.score(0), 0);
            Due.is("represent with " + set, x.represent(0, set), due);
            Due.is("score of " + set, x.score(0), due);
        }
        ChargebackProcessor y = dispute("needed", "0", 0, 5);
        Due.is("needed when nothing is needed", y.represent(0, 255), 0);
        ChargebackProcessor z = dispute("needed", "0 needs 0 1 2 3 4 5 6 7", 0, 5);
        Due.is("needed when all is needed", z.represent(0, 255), 8);
    }

    private static void amount() {
        Due.sentence("amount is the amount of the dispute,");
        for (int amount : new int[] {1, 99998, 99999}) {
            ChargebackProcessor x = Due.with("score amount;reason 1 9 9 9 0;");
            x.purchase(0, 0, 99999);
            x.file(0, 0, amount);
            Due.is("an amount of " + amount, x.score(0), amount);
        }
    }

    private static void days() {
        Due.sentence("and days is the number of days from the purchase to the filing.");
        for (int days : new int[] {0, 1, 99, 100, 199, 200}) {
            ChargebackProcessor x = Due.with("score days;reason 1 200 60 9 0;");
            x.pass(3);
            x.purchase(0, 0, 9);
            for (int left = days; left > 0; left -= 100) {
                x.pass(Math.min(left, 100));
            }
            x.file(0, 0, 9);
            Due.is(days + " days", x.score(0), days);
            x.pass(10);
            Due.is(days + " days, later", x.score(0), days);
        }
    }

    private static void truncation() {
        Due.sentence("Division truncates toward zero;");
        score("7/2", 3);
        score("8/2", 4);
        score("(0-7)/2", -3);
        score("(0-8)/2", -4);
        score("7/(0-2)", -3);
        score("(0-7)/(0-2)", 3);
        score("1/2", 0);
        score("(0-1)/2", 0);
        score("1/(0-2)", 0);
        score("0/5", 0);
        score("0-7/2", -3);
        score("9999/9999", 1);
        score("9998/9999", 0);
        score("(0-9998)/9999", 0);
        score("(0-9999)/9999", -1);
    }

    private static void divisionByZero() {
        Due.sentence("division by 0 gives 0.");
        score("5/0", 0);
        score("0/0", 0);
        score("(0-5)/0", 0);
        score("9999*9999/0", 0);
        score("5/(3-3)", 0);
        score("5/count", 0);
        score("5/needed", 0);
        score("5/days", 0);
        score("5/(1/2)", 0);
        score("7+5/0", 7);
        score("5/0/0", 0);
        score("5/0*7+1", 1);
        score("5/(5/0)", 0);
    }

    private static void upperBound() {
        Due.sentence("The result of each operation is limited to the range -1000000 to 1000000.");
        String million = "1000*1000";
        score("1000*999+999", 999999);
        score(million, 1000000);
        score("1000*999+1000", 1000000);
        score("1000*999+1001", 1000000);
        score("1001*1000", 1000000);
        score("9999*9999", 1000000);
        score(million + "-1+1", 1000000);
        score(million + "-1+2", 1000000);
        score("(" + million + ")-(0-1)", 1000000);
        score("(" + million + ")*(" + million + ")", 1000000);
        score("(0-" + million + ")*(0-" + million + ")", 1000000);
        score("(0-1000)*(0-1001)", 1000000);
        score("(" + million + ")/1", 1000000);
        score("(0-" + million + ")/(0-1)", 1000000);
    }

    private static void lowerBound() {
        Due.sentence("The result of each operation is limited to the range -1000000 to 1000000.");
        String million = "1000*1000";
        score("0-1000*999-999", -999999);
        score("0-" + million, -1000000);
        score("0-" + million + "-0", -1000000);
        score("0-" + million + "-1", -1000000);
        score("0-" + million + "+(0-1)", -1000000);
        score("(0-1000)*999", -999000);
        score("(0-1000)*1000", -1000000);
        score("(0-1000)*1001", -1000000);
        score("1001*(0-1000)", -1000000);
        score("(0-" + million + ")*(" + million + ")", -1000000);
        score("(0-" + million + ")/1", -1000000);
        score("(" + million + ")/(0-1)", -1000000);
    }

    /** Not only the last result is limited. */
    private static void eachOperation() {
        Due.sentence("The result of each operation is limited to the range -1000000 to 1000000.");
        score("9999*9999-1", 999999);
        score("9999*9999/1000", 1000);
        score("9999*9999*9999/9999", 100);
        score("1000*1000+1-1", 999999);
        score("1000*1000+9999-9999", 990001);
        score("1000*1000-(0-5)-5", 999995);
        score("0-9999*9999+1", -999999);
        score("0-1000*1000-1+1", -999999);
        score("(0-1000)*9999+1", -999999);
        score("1000*1000*1000/1000/1000", 1);
        ChargebackProcessor x = Due.with("score amount*amount-amount;reason 1 9 9 9 0;");
        x.purchase(0, 0, 99999);
        x.file(0, 0, 99999);
        Due.is("amount*amount-amount of 99999", x.score(0), 1000000 - 99999);
    }

    private static void withoutStatement() {
        Due.sentence("Without a score statement the score is count.");
        ChargebackProcessor x = Due.with("reason 1 9 9 9 0 needs 7;");
        x.purchase(0, 0, 9);
        x.file(0, 0, 9);
        Due.is("nothing", x.score(0), 0);
        Due.is("all", x.represent(0, 255), 8);
        ChargebackProcessor y = Due.with("score 5;");
        Due.load(y, "reason 1 9 9 9 0 needs 7;");
        y.purchase(0, 0, 9);
        y.file(0, 0, 9);
        Due.is("nothing, after a text with a score", y.score(0), 0);
        Due.is("two, after a text with a score", y.represent(0, 0b110), 2);
    }

    private static void ownSet() {
        Due.sentence("The score of a dispute is that of its set of evidence.");
        ChargebackProcessor x = dispute("count", "9", 0, 5);
        x.represent(0, 0b11);
        Due.is("represented", x.score(0), 2);
        x.escalate(0);
        Due.is("escalated", x.score(0), 2);
        x.contest(0, 0b110);
        Due.is("contested", x.score(0), 3);
        x.pass(11);
        Due.is("final", x.score(0), 3);
    }

    private static void wouldWin() {
        Due.sentence("Returns whether the merchant would win.");
        ChargebackProcessor x = dispute("count", "3 needs 6", 0, 5);
        for (int set = 0; set <= 255; set++) {
            Due.is("wouldWin with " + set, x.wouldWin(0, set), (set & 64) != 0 && Integer.bitCount(set) >= 3);
        }
        Due.is("its own set stays empty", x.evidence(0), 0);
        Due.is("no change but load, purchase and file", x.undo(), 2);
    }

    private static void whateverState() {
        Due.sentence("Tells how an arbitration of a dispute would be decided with another set of evidence (whatever its state).");
        ChargebackProcessor x = dispute("count", "2 needs 1", 0, 5);
        for (int stage = 0; stage < 5; stage++) {
            String state = " in state " + x.state(0);
            Due.is("too little" + state, x.wouldWin(0, 0b10), false);
            Due.is("enough" + state, x.wouldWin(0, 0b11), true);
            Due.is("not what is needed" + state, x.wouldWin(0, 0b11111101), false);
            Due.is("the least set" + state, x.bestEvidence(0), stage == 0 ? 0b11 : 0b10010);
            if (stage == 0) {
                x.represent(0, 0b10000);
            } else if (stage == 1) {
                x.escalate(0);
            } else if (stage == 2) {
                x.contest(0, 0);
            } else {
                x.pass(50);
            }
        }
        Due.is("the state at last", x.state(0), ChargebackProcessor.ISSUER_WON);
    }

    private static void bestContains() {
        Due.sentence("Finds the smallest set of evidence that contains the dispute's set of evidence and with which the merchant would win an arbitration:");
        best("its own set wins", "count", "2", 0b11000000, 0b11000000);
        best("its own set is more than enough", "count", "2", 0b11100000, 0b11100000);
        best("one type more", "count", "3", 0b11000000, 0b11000001);
        best("its own set and what is needed", "count", "0 needs 2", 0b10000000, 0b10000100);
        best("the empty set", "count", "0", 0, 0);
        best("all types", "count", "8", 0, 255);
        best("all types are needed", "0", "0 needs 0 1 2 3 4 5 6 7", 0b1000, 255);
        best("all types are there", "count", "8", 255, 255);
    }

    private static void fewestTypes() {
        Due.sentence("the one with the fewest types;");
        best("one, though a greater number,", "needed", "1 needs 7", 0, 0b10000000);
        best("two, not three", "count", "2", 0, 0b11);
        best("a lower count wins too", "9-count", "7", 0, 0);
        best("only four win", "1/(1+(count-4)*(count-4))", "1", 0, 0b1111);
    }

    private static void smallestNumber() {
        Due.sentence("of several, the smallest number.");
        best("the lowest type", "count", "1", 0, 1);
        best("the lowest free type", "count", "3", 0b101, 0b111);
        best("the lowest types beside what is needed", "count", "4 needs 0 5", 0, 0b100111);
        best("types above and below", "count", "5 needs 1", 0b1000, 0b11111);
        best("the highest type is left", "count", "8", 0b01111111, 255);
        best("the lowest type is left", "count", "8", 0b11111110, 255);
    }

    private static void noBest() {
        Due.sentence("Returns this set; -1 if there is none.");
        best("a score of 8 at most", "count", "9", 0, -1);
        best("a score of 8 at most", "count", "9999", 255, -1);
        best("never", "0-1", "0", 0, -1);
        best("too many types already", "4-count", "3", 0b11, -1);
        best("what is needed is too much", "4-count", "3 needs 0 1", 0, -1);
        best("what is needed is just enough", "4-count", "2 needs 0 1", 0, 0b11);
    }

    private static void everySet() {
        Due.sentence("with which the merchant would win an arbitration: the one with the fewest types; of several, the smallest number.");
        String[] scores = {"count", "(count-2)*(6-count)", "needed*2-count+4", "6/(count-3)", "days+count*amount"};
        String[] reasons = {"0", "3", "4 needs 7", "5 needs 2 4", "8 needs 0 6 7", "15 needs 3"};
        int[] sets = {0, 1, 0b10000000, 0b1010, 0b01111110, 255};
        for (String score : scores) {
            for (String reason : reasons) {
                for (int set : sets) {
                    ChargebackProcessor x = dispute(score, reason, 1, 2);
                    if (set != 0) {
                        x.represent(0, set);
                    }
                    Due.is("bestEvidence with " + score + ", " + reason + " and " + set, x.bestEvidence(0), bestOfAll(x, set));
                }
            }
        }
    }

    private static int bestOfAll(ChargebackProcessor x, int own) {
        int best = -1;
        for (int set = 0; set <= 255; set++) {
            boolean fewer = best < 0 || Integer.bitCount(set) < Integer.bitCount(best);
            if ((set & own) == own && fewer && x.wouldWin(0, set)) {
                best = set;
            }
        }
        return best;
    }

    private static void best(String what, String score, String thresholdAndNeeds, int evidence, int due) {
        ChargebackProcessor x = dispute(score, thresholdAndNeeds, 0, 5);
        if (evidence != 0) {
            x.represent(0, evidence);
        }
        Due.is(what, x.bestEvidence(0), due);
        Due.is(what + ": its own set stays", x.evidence(0), evidence);
    }

    private static void score(String expression, int due) {
        Due.is("score " + expression, dispute(expression, "0 needs 1", 0, 5).score(0), due);
    }

    private static ChargebackProcessor dispute(String score, String thresholdAndNeeds, int days, int amount) {
        ChargebackProcessor x = Due.with("score " + score + ";reason 1 9 9 9 " + thresholdAndNeeds + ";");
        x.purchase(0, 0, amount);
        if (days > 0) {
            x.pass(days);
        }
        x.file(0, 0, amount);
        return x;
    }
}
