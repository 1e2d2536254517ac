/** The edges of "Setup text" in the document: the bytes, the tokens, the grammar and the numbers. */
public final class EdgesOfTextTest {
    private static final int SYNTAX = Texts.SYNTAX;
    private static final int RANGE = Texts.RANGE;
    private static final int DEEP = Texts.DEEP;

    public static void main(String[] args) {
        buffer();
        setups();
        statements();
        sums();
        terms();
        factors();
        runs();
        longestRuns();
        spaces();
        otherBytes();
        numbersOfParties();
        numbersOfReason();
        fees();
        factorNumbers();
        depth();
        once();
        Due.end();
    }

    private static void buffer() {
        Due.sentence("The setup text is read from an input buffer of at most 900 bytes.");
        Texts.good("limit " + "0".repeat(892) + ";", 0);
        Texts.good("limit " + "0".repeat(893) + ";", 0);
        Texts.bad("limit " + "0".repeat(894), SYNTAX, 900);
        Texts.bad("limit 1;" + " ".repeat(891) + "x", SYNTAX, 899);
        ChargebackProcessor x = new ChargebackProcessor();
        Due.append(x, "limit 1;" + " ".repeat(892) + "the 901st byte and its fellows are not taken");
        Due.is("load(900)", x.load(900), 0);
    }

    private static void setups() {
        Due.sentence("setup     = { statement \";\" }");
        Texts.good("", 0);
        Texts.good("limit 1;", 0);
        Texts.good("limit 1;fees 1 1;", 0);
        Texts.bad(";", SYNTAX, 0);
        Texts.bad("limit 1", SYNTAX, 7);
        Texts.bad("limit 1;;", SYNTAX, 8);
        Texts.bad("limit 1 fees 1 1;", SYNTAX, 8);
        Texts.bad("limit 1;fees 1 1", SYNTAX, 16);
        Texts.bad("7;", SYNTAX, 0);
        Texts.bad("(limit 1);", SYNTAX, 0);
    }

    private static void statements() {
        Due.sentence("statement = \"parties\" number number | \"reason\" number number number number number [ \"needs\" number { number } ] | \"fees\" number number | \"score\" sum | \"limit\" number");
        numbers("parties", 2, 0);
        numbers("fees", 2, 0);
        numbers("limit", 1, 0);
        numbers("reason", 5, 1);
        Texts.good("score 1;", 0);
        Texts.bad("score;", SYNTAX, 5);
        Texts.bad("score", SYNTAX, 5);
        Texts.bad("score 1 1;", SYNTAX, 8);
        Texts.good("reason 1 1 1 1 1 needs 1;", 1);
        Texts.good("reason 1 1 1 1 1 needs 1 2;", 1);
        Texts.good("reason 1 1 1 1 1 needs 7 6 5 4 3 2 1 0;", 1);
        Texts.bad("reason 1 1 1 1 1 needs;", SYNTAX, 22);
        Texts.bad("reason 1 1 1 1 1 needs", SYNTAX, 22);
        Texts.bad("reason 1 1 1 1 1 needs 1 needs 2;", SYNTAX, 25);
        Texts.bad("reason 1 1 1 1 needs 1;", SYNTAX, 15);
        Texts.bad("reason needs 1;", SYNTAX, 7);
        Texts.bad("parties 1 1 needs 1;", SYNTAX, 12);
        Texts.bad("limit 1 needs 1;", SYNTAX, 8);
        for (String word : new String[] {"needs", "count", "needed", "amount", "days", "party", "part", "reasons", "fee", "scores", "lim"}) {
            Texts.bad(word + " 1;", SYNTAX, 0);
            Texts.bad("limit 1;" + word + " 1 1;", SYNTAX, 8);
        }
    }

    /** The word with so many numbers is right; one fewer and one more is not. */
    private static void numbers(String word, int count, int reasons) {
        String fewer = word + " 1".repeat(count - 1);
        String enough = word + " 1".repeat(count);
        Texts.good(enough + ";", reasons);
        Texts.bad(fewer + ";", SYNTAX, fewer.length());
        Texts.bad(fewer, SYNTAX, fewer.length());
        Texts.bad(enough, SYNTAX, enough.length());
        Texts.bad(enough + " 1;", SYNTAX, enough.length() + 1);
        Texts.bad(fewer + " count;", SYNTAX, fewer.length() + 1);
        Texts.bad(fewer + " (1);", SYNTAX, fewer.length() + 1);
        Texts.bad(fewer + " -1;", SYNTAX, fewer.length() + 1);
        Texts.bad(fewer + " +1;", SYNTAX, fewer.length() + 1);
    }

    private static void sums() {
        Due.sentence("sum       = term { ( \"+\" | \"-\" ) term }");
        Texts.good("score 1+2;", 0);
        Texts.good("score 1-2;", 0);
        Texts.good("score 1+2-3+4;", 0);
        Texts.bad("score +1;", SYNTAX, 6);
        Texts.bad("score -1;", SYNTAX, 6);
        Texts.bad("score 1+;", SYNTAX, 8);
        Texts.bad("score 1-;", SYNTAX, 8);
        Texts.bad("score 1+", SYNTAX, 8);
        Texts.bad("score 1++2;", SYNTAX, 8);
        Texts.bad("score 1+-2;", SYNTAX, 8);
        Texts.bad("score 1-*2;", SYNTAX, 8);
        score("9-4-3", 2);
        score("9-4+3", 8);
    }

    private static void terms() {
        Due.sentence("term      = factor { ( \"*\" | \"/\" ) factor }");
        Texts.good("score 1*2;", 0);
        Texts.good("score 1/2;", 0);
        Texts.good("score 1*2/3*4;", 0);
        Texts.bad("score *1;", SYNTAX, 6);
        Texts.bad("score /1;", SYNTAX, 6);
        Texts.bad("score 1*;", SYNTAX, 8);
        Texts.bad("score 1/;", SYNTAX, 8);
        Texts.bad("score 1/", SYNTAX, 8);
        Texts.bad("score 1**2;", SYNTAX, 8);
        Texts.bad("score 1*+2;", SYNTAX, 8);
        Texts.bad("score 1//2;", SYNTAX, 8);
        score("90/9/5", 2);
        score("9/2*2", 8);
        score("2+3*4", 14);
        score("20-6/2", 17);
    }

    private static void factors() {
        Due.sentence("factor    = number | \"count\" | \"needed\" | \"amount\" | \"days\" | \"(\" sum \")\"");
        for (String factor : new String[] {"5", "count", "needed", "amount", "days", "(5)", "(1+2)", "(count*2-days)"}) {
            Texts.good("score " + factor + ";", 0);
            Texts.good("score (" + factor + ")/" + factor + ";", 0);
        }
        for (String word : new String[] {"counts", "need", "needs", "amoun", "day", "score", "limit", "x"}) {
            Texts.bad("score " + word + ";", SYNTAX, 6);
            Texts.bad("score 1+" + word + ";", SYNTAX, 8);
        }
        Texts.bad("score ();", SYNTAX, 7);
        Texts.bad("score (;", SYNTAX, 7);
        Texts.bad("score );", SYNTAX, 6);
        Texts.bad("score (1;", SYNTAX, 8);
        Texts.bad("score (1", SYNTAX, 8);
        Texts.bad("score 1);", SYNTAX, 7);
        Texts.bad("score (1));", SYNTAX, 9);
        Texts.bad("score (1)(2);", SYNTAX, 9);
        Texts.bad("score (1)2;", SYNTAX, 9);
        Texts.bad("score (1 2);", SYNTAX, 9);
        Texts.bad("score count count;", SYNTAX, 12);
    }

    private static void runs() {
        Due.sentence("A number is a run of decimal digits; a word is a run of the letters a to z.");
        Texts.good("limit 0123;", 0);
        Texts.good("limit 4567;", 0);
        Texts.good("limit 89;", 0);
        Texts.bad("limit /;", SYNTAX, 6);
        Texts.bad("limit :;", SYNTAX, 6);
        Texts.bad("limit x1;", SYNTAX, 6);
        Texts.bad("limit 1.5;", SYNTAX, 7);
        Texts.bad("LIMIT 1;", SYNTAX, 0);
        Texts.bad("Limit 1;", SYNTAX, 0);
        Texts.bad("limiT 1;", SYNTAX, 0);
        Texts.bad("limi_t 1;", SYNTAX, 0);
        Texts.bad("alimit 1;", SYNTAX, 0);
        Texts.bad("limitz 1;", SYNTAX, 0);
        // Words that differ from a right one in a single letter, at any place.
        for (String word : new String[] {"parties", "reason", "fees", "score", "limit"}) {
            for (int i = 0; i < word.length(); i++) {
                Texts.bad(word.substring(0, i) + "x" + word.substring(i + 1) + " 1 1 1 1 1;", SYNTAX, 0);
                Texts.bad(word.substring(0, i) + word.substring(i + 1) + " 1 1 1 1 1;", SYNTAX, 0);
            }
        }
        Texts.bad("limit`1;", SYNTAX, 5);
        Texts.bad("limit{1;", SYNTAX, 5);
    }

    private static void longestRuns() {
        Due.sentence("Each run is as long as possible.");
        Texts.good("limit1;", 0);
        Texts.good("parties1 2;", 0);
        Texts.good("reason1 1 1 1 1needs1;", 1);
        Texts.good("fees1 2;limit1;score1;", 0);
        Texts.bad("parties 12;", RANGE, 8);
        Texts.bad("fees 12;", SYNTAX, 7);
        Texts.bad("limit 1 0;", SYNTAX, 8);
        Texts.bad("li mit 1;", SYNTAX, 0);
        Texts.bad("limitlimit 1;", SYNTAX, 0);
        Texts.bad("reason 1 1 1 1 1 needsneeds 1;", SYNTAX, 17);
        Texts.bad("reason 1 1 1 1 1 needed 1;", SYNTAX, 17);
        Texts.bad("scorecount;", SYNTAX, 0);
        Texts.bad("score countdays;", SYNTAX, 6);
        Texts.bad("score 5count;", SYNTAX, 7);
        Texts.bad("score count5;", SYNTAX, 11);
        Texts.bad("score 1 0;", SYNTAX, 8);
    }

    private static void spaces() {
        Due.sentence("Spaces (byte 32) may precede any token and may follow the last one.");
        String text = "reason 5 1 1 1 1 needs 1 2 ; parties 2 3 ; fees 1 2 ; score ( count + 1 ) * needed / amount - days ; limit 7 ;";
        Texts.good(text, 1);
        Texts.good(text.replace(" ", "   "), 1);
        Texts.good("  " + text + "  ", 1);
        Texts.good(text + " ".repeat(900 - text.length()), 1);
        Texts.good(" ".repeat(900 - text.length()) + text, 1);
        Texts.good(text.replaceAll(" ?([^a-z0-9 ]) ?", "$1"), 1);
        Texts.good(" ", 0);
        Texts.good(" ".repeat(900), 0);
        Texts.good("limit 7; ", 0);
        Texts.bad("limit 7 ", SYNTAX, 8);
        Texts.bad(" ".repeat(899) + ";", SYNTAX, 899);
    }

    /** Every byte, in every place where a space or a sign may stand. */
    private static void otherBytes() {
        Due.sentence("No other byte separates tokens.");
        for (int b = 0; b < 256; b++) {
            char sign = (char) b;
            boolean digit = b >= '0' && b <= '9';
            boolean letter = b >= 'a' && b <= 'z';
            if (b == ' ') {
                Texts.good(sign + "limit 1;", 0);
                Texts.good("limit 1;" + sign, 0);
                Texts.good("fees 1" + sign + "2;", 0);
                Texts.bad("score 1" + sign + "2;", SYNTAX, 8);
            } else {
                Texts.bad(sign + "limit 1;", SYNTAX, 0);
                Texts.bad("limit 1;" + sign, SYNTAX, 8);
                Texts.bad("fees 1" + sign + "2;", SYNTAX, digit ? 8 : 6);
            }
            if (b == ' ' || digit) {
                Texts.good("limit" + sign + "1;", 0);
            } else {
                Texts.bad("limit" + sign + "1;", SYNTAX, letter ? 0 : 5);
            }
            if (digit || "+-*/".indexOf(sign) >= 0) {
                Texts.good("score 1" + sign + "2;", 0);
            } else if (b == ';') {
                Texts.bad("score 1" + sign + "2;", SYNTAX, 8);
            } else if (b != ' ') {
                Texts.bad("score 1" + sign + "2;", SYNTAX, 7);
            }
        }
    }

    private static void numbersOfParties() {
        Due.sentence("The numbers of parties are the numbers of issuers and merchants.");
        for (int issuers = 1; issuers <= 4; issuers++) {
            for (int merchants = 1; merchants <= 4; merchants++) {
                ChargebackProcessor x = Due.with("parties " + issuers + " " + merchants + ";");
                Due.is("issuerCount", x.issuerCount(), issuers);
                Due.is("merchantCount", x.merchantCount(), merchants);
            }
        }
    }

    private static void numbersOfReason() {
        Due.sentence("Those of reason are the code, the filing window, the answer window, the review window, and the threshold; needs gives the needed evidence.");
        ChargebackProcessor x = Due.with("reason 6 3 11 7 2 needs 5;");
        Due.is("the code", x.reasonOf(6), 0);
        x.purchase(0, 0, 100);
        x.pass(3);
        Due.is("the filing window", x.file(0, 0, 10), 0);
        Due.is("the answer window", x.deadline(0), 3 + 11);
        Due.is("the threshold and the needed evidence", x.bestEvidence(0), 0b100001);
        x.represent(0, 1);
        Due.is("the review window", x.deadline(0), 3 + 7);
        x.pass(1);
        Due.stateThrow("the filing window is over", () -> x.file(0, 0, 10));
        Due.is("the answer window once more", x.escalate(0), 4 + 11);
        Due.sentence("[ \"needs\" number { number } ]");
        ChargebackProcessor y = Due.with("reason 6 3 11 7 0;reason 7 3 11 7 0 needs 0 7;");
        y.purchase(0, 0, 100);
        y.file(0, 0, 10);
        y.file(0, 1, 10);
        Due.is("nothing is needed without needs", y.bestEvidence(0), 0);
        Due.is("the first and the last type", y.bestEvidence(1), 0b10000001);
    }

    private static void fees() {
        Due.sentence("Those of fees are the opening fee and the arbitration fee (0 to 999; 0 and 0 without a statement).");
        Texts.good("fees 0 0;", 0);
        Texts.good("fees 999 999;", 0);
        Texts.bad("fees 1000 0;", RANGE, 5);
        Texts.bad("fees 0 1000;", RANGE, 7);
        network("", 0, 0);
        network("fees 0 0;", 0, 0);
        network("fees 999 0;", 999, 999);
        network("fees 0 999;", 0, 999);
        network("fees 999 998;", 999, 1997);
        // Fees of the text before do not stay.
        ChargebackProcessor x = Due.with("fees 9 9;");
        Due.load(x, "reason 1 1 1 1 0;");
        x.purchase(0, 0, 5);
        x.file(0, 0, 5);
        Due.is("networkAccount", x.networkAccount(), 0);
    }

    private static void network(String fees, int filed, int decided) {
        ChargebackProcessor x = Due.with(fees + "reason 1 1 1 1 0;");
        x.purchase(0, 0, 5);
        x.file(0, 0, 5);
        Due.is("the opening fee with \"" + fees + "\"", x.networkAccount(), filed);
        x.represent(0, 1);
        x.escalate(0);
        x.contest(0, 0);
        x.pass(11);
        Due.is("both fees with \"" + fees + "\"", x.networkAccount(), decided);
    }

    private static void factorNumbers() {
        Due.sentence("A number as a factor is 0 to 9999.");
        score("0", 0);
        score("9999", 9999);
        score("00009999", 9999);
        Texts.bad("score 10000;", RANGE, 6);
        Texts.bad("score 1+10000;", RANGE, 8);
        Texts.bad("score 1*10000;", RANGE, 8);
        Texts.bad("score ((((10000))));", RANGE, 10);
        Texts.bad("score 4294967296;", RANGE, 6);
        Texts.bad("score 4294967297;", RANGE, 6);
        Texts.bad("score 18446744073709551616;", RANGE, 6);
    }

    private static void depth() {
        Due.sentence("Parentheses nest at most 4 deep.");
        for (int depth = 0; depth <= 4; depth++) {
            score("(".repeat(depth) + "7" + ")".repeat(depth), 7);
        }
        Texts.bad("score (((((7)))));", DEEP, 10);
        Texts.bad("score ((((((7))))));", DEEP, 10);
        score("((((1))))+((((2))))*((((3))))", 7);
        // As many operands wait at each depth as ever can.
        score("1+2*(1+2*(1+2*(1+2*(1+2*3))))", 127);
        score("9-8/(7-6/(5-4/(3-2/(2-9/8))))", 9 - 8 / (7 - 6 / (5 - 4 / (3 - 2))));
        score("((((1)+1)+1)+1)", 4);
        score("(1+(1+(1+(1+1))))", 5);
        Texts.bad("score (1+(1+(1+(1+(1)))));", DEEP, 18);
        Texts.bad("score ((((1))))+(((((2)))));", DEEP, 20);
    }

    private static void once() {
        Due.sentence("The statements parties, fees, score and limit may each occur once.");
        String all = "parties 1 1;fees 1 1;score 1;limit 1;";
        Texts.good(all, 0);
        Texts.bad(all + "parties 1 1;", SYNTAX, all.length());
        Texts.bad(all + "fees 1 1;", SYNTAX, all.length());
        Texts.bad(all + "score 1;", SYNTAX, all.length());
        Texts.bad(all + "limit 1;", SYNTAX, all.length());
        Texts.good(all + Texts.reasons(2), 2);
        ChargebackProcessor x = Due.with(all);
        Due.is("once in each text", Due.load(x, all), 0);
        Due.is("and after an error", Due.load(x, all + all), SYNTAX);
        Due.is("again", Due.load(x, all), 0);
    }

    private static void score(String expression, int due) {
        ChargebackProcessor x = Due.with("score " + expression + ";reason 1 1 1 1 0;");
        x.purchase(0, 0, 5);
        x.file(0, 0, 5);
        Due.is("score " + expression, x.score(0), due);
    }
}
