/** Promises 2 to 7 and 11: the input buffer, the setup text, its errors, and what it declares. */
public final class SetupTextTest {
    private static final int SYNTAX = Texts.SYNTAX;
    private static final int RANGE = Texts.RANGE;
    private static final int MANY = Texts.MANY;
    private static final int DEEP = Texts.DEEP;

    public static void main(String[] args) {
        buffer();
        lengths();
        goodTexts();
        declared();
        syntaxErrors();
        textsThatEndTooEarly();
        secondStatements();
        ranges();
        reasonsTwice();
        tooManyReasons();
        tooDeep();
        firstErrorCounts();
        errorsChangeNothing();
        longTexts();
        Due.end();
    }

    private static void buffer() {
        ChargebackProcessor x = new ChargebackProcessor();
        for (int i = 1; i <= 45; i++) {
            Due.is("append " + i, x.append(0x20202020, 0x20202020, 0x20202020, 0x20202020, 0x20202020), 20 * i);
        }
        Due.is("append beyond 900", x.append(0, 0, 0, 0, 0), -1);
        Due.argumentThrow("load(901)", () -> x.load(901));
        Due.is("load(900) of spaces", x.load(900), 0);
        Due.is("append to the emptied buffer", x.append(0x6c696d69, 0x74207b3b, 0, 0, 0), 20);
        Due.is("bytes in their order, most significant first", x.load(8), SYNTAX);
        Due.is("offset of the brace", x.errorOffset(), 6);
        x.append(0x206c696d, 0x69742031, 0x3b202020, 0x70617274, 0x696573FF);
        Due.is("all five words", x.load(20), SYNTAX);
        Due.is("offset of the byte 255", x.errorOffset(), 19);
    }

    private static void lengths() {
        ChargebackProcessor x = new ChargebackProcessor();
        int length = Due.append(x, "limit 7;reason 1 1 1 1 1;");
        Due.argumentThrow("a negative length", () -> x.load(-1));
        Due.argumentThrow("the smallest length", () -> x.load(Integer.MIN_VALUE));
        Due.argumentThrow("a length beyond the buffer", () -> x.load(41));
        Due.argumentThrow("the greatest length", () -> x.load(Integer.MAX_VALUE));
        Due.is("no call of load that did not throw", x.errorOffset(), -1);
        Due.is("the buffer is unchanged then", x.load(length), 1);
        Due.append(x, "limit 7;reason 1 1 1 1 1;");
        Due.is("only the first bytes", x.load(8), 0);
        Due.argumentThrow("the rest is gone", () -> x.load(1));
        Due.append(x, "limit x");
        Due.is("an error", x.load(7), SYNTAX);
        Due.argumentThrow("the buffer is empty also after an error", () -> x.load(1));
        Due.is("a load that throws leaves the offset", x.errorOffset(), 6);
        Due.is("an empty text", x.load(0), 0);
        Due.is("no error", x.errorOffset(), -1);
        Due.append(x, "limit 77777");
        Due.is("a token is cut at the length", x.load(8), SYNTAX);
        Due.is("where the text ends", x.errorOffset(), 8);
    }

    private static void goodTexts() {
        Texts.good("", 0);
        Texts.good("   ", 0);
        Texts.good("limit 0;", 0);
        Texts.good("limit9999;", 0);
        Texts.good("  limit  9999  ;  ", 0);
        Texts.good("limit 0000000000000000000000000009999;", 0);
        Texts.good("parties 1 1;", 0);
        Texts.good("parties 4 4;", 0);
        Texts.good("parties4 4;", 0);
        Texts.good("fees 0 0;", 0);
        Texts.good("fees 999 999;", 0);
        Texts.good("reason 0 0 1 1 0;", 1);
        Texts.good("reason 99 200 60 60 9999 needs 0 1 2 3 4 5 6 7;", 1);
        Texts.good("reason99 200 60 60 9999needs7 6;", 1);
        Texts.good("reason 1 1 1 1 1;reason 2 1 1 1 1 needs 3;reason 3 1 1 1 1 needs 3;", 3);
        Texts.good("score 0;", 0);
        Texts.good("score 9999;", 0);
        Texts.good("score count;", 0);
        Texts.good("score(count)*needed/amount+days-1;", 0);
        Texts.good("score((((1))))+((((2))));", 0);
        Texts.good("score ( ( ( ( 1 ) ) ) * ( 2 ) ) ;", 0);
        Texts.good("score count;limit 1;fees 1 2;parties 2 3;reason 1 1 1 1 1;", 1);
    }

    private static void declared() {
        ChargebackProcessor x = Due.with("reason 7 1 1 1 1;parties 2 3;reason 0 1 1 1 1;reason 99 1 1 1 1;");
        Due.is("issuerCount", x.issuerCount(), 2);
        Due.is("merchantCount", x.merchantCount(), 3);
        Due.is("reasonCount", x.reasonCount(), 3);
        Due.is("reasonOf(7)", x.reasonOf(7), 0);
        Due.is("reasonOf(0)", x.reasonOf(0), 1);
        Due.is("reasonOf(99)", x.reasonOf(99), 2);
        Due.is("reasonOf(1)", x.reasonOf(1), -1);
        Due.is("reasonOf(-1)", x.reasonOf(-1), -1);
        Due.is("reasonOf(the greatest)", x.reasonOf(Integer.MAX_VALUE), -1);
        Due.is("reasonOf(the smallest)", x.reasonOf(Integer.MIN_VALUE), -1);
        Due.is("the last issuer", x.issuerAccount(1), 0);
        Due.indexThrow("an issuer too many", () -> x.issuerAccount(2));
        Due.is("the last merchant", x.merchantAccount(2), 0);
        Due.indexThrow("a merchant too many", () -> x.merchantAccount(3));
        Due.is("a text with fewer", Due.load(x, "limit 1;"), 0);
        Due.is("issuers without a statement", x.issuerCount(), 1);
        Due.is("merchants without a statement", x.merchantCount(), 1);
        Due.is("no reason is left", x.reasonOf(7), -1);
    }

    private static void syntaxErrors() {
        Texts.bad(";", SYNTAX, 0);
        Texts.bad("limit 1;;", SYNTAX, 8);
        Texts.bad("limit 1 2;", SYNTAX, 8);
        Texts.bad("limit;", SYNTAX, 5);
        Texts.bad("limit -1;", SYNTAX, 6);
        Texts.bad("limit count;", SYNTAX, 6);
        Texts.bad("limits 1;", SYNTAX, 0);
        Texts.bad("limi 1;", SYNTAX, 0);
        Texts.bad("Limit 1;", SYNTAX, 0);
        Texts.bad("limiT 1;", SYNTAX, 0);
        Texts.bad("limitlimit 1;", SYNTAX, 0);
        Texts.bad("limitz 1;", SYNTAX, 0);
        Texts.bad("alimit 1;", SYNTAX, 0);
        Texts.bad("limit`1;", SYNTAX, 5);
        Texts.bad("limit{1;", SYNTAX, 5);
        Texts.bad("limit 1/;", SYNTAX, 7);
        Texts.bad("limit 1:;", SYNTAX, 7);
        Texts.bad("mimit 1;", SYNTAX, 0);
        Texts.bad("5;", SYNTAX, 0);
        Texts.bad("count;", SYNTAX, 0);
        Texts.bad("needs 1;", SYNTAX, 0);
        Texts.bad("limit\t1;", SYNTAX, 5);
        Texts.bad("limit 1;\n", SYNTAX, 8);
        Texts.bad("limit 1;\0", SYNTAX, 8);
        Texts.bad("limit 1\u00ff;", SYNTAX, 7);
        Texts.bad("limit 1\u00bb;", SYNTAX, 7);
        Texts.bad("parties 1;", SYNTAX, 9);
        Texts.bad("parties 1 2 3;", SYNTAX, 12);
        Texts.bad("parties 1,2;", SYNTAX, 9);
        Texts.bad("fees 1;", SYNTAX, 6);
        Texts.bad("fees 1 2 3;", SYNTAX, 9);
        Texts.bad("reason 1 2 3 4;", SYNTAX, 14);
        Texts.bad("reason 1 2 3 4 5 6;", SYNTAX, 17);
        Texts.bad("reason 1 2 3 4 needs 1;", SYNTAX, 15);
        Texts.bad("reason 1 2 3 4 5 needs;", SYNTAX, 22);
        Texts.bad("reason 1 2 3 4 5 need 1;", SYNTAX, 17);
        Texts.bad("reason 1 2 3 4 5 needed 1;", SYNTAX, 17);
        Texts.bad("reason 1 2 3 4 5 needs 1 needs 2;", SYNTAX, 25);
        Texts.bad("reason 1 2 3 4 5 needs 1 count;", SYNTAX, 25);
        Texts.bad("score;", SYNTAX, 5);
        Texts.bad("score 1 2;", SYNTAX, 8);
        Texts.bad("score +1;", SYNTAX, 6);
        Texts.bad("score 1+;", SYNTAX, 8);
        Texts.bad("score 1*-1;", SYNTAX, 8);
        Texts.bad("score 1%2;", SYNTAX, 7);
        Texts.bad("score 1(2);", SYNTAX, 7);
        Texts.bad("score ();", SYNTAX, 7);
        Texts.bad("score (1;", SYNTAX, 8);
        Texts.bad("score 1);", SYNTAX, 7);
        Texts.bad("score (1+);", SYNTAX, 9);
        Texts.bad("score 1 count;", SYNTAX, 8);
        Texts.bad("score counts;", SYNTAX, 6);
        Texts.bad("score day;", SYNTAX, 6);
        Texts.bad("score limit;", SYNTAX, 6);
        Texts.bad("scorecount;", SYNTAX, 0);
    }

    private static void textsThatEndTooEarly() {
        Texts.bad("limit", SYNTAX, 5);
        Texts.bad("limit   ", SYNTAX, 8);
        Texts.bad("limit 1", SYNTAX, 7);
        Texts.bad("limit 1  ", SYNTAX, 9);
        Texts.bad("parties 1", SYNTAX, 9);
        Texts.bad("fees 1 1", SYNTAX, 8);
        Texts.bad("reason 1 1 1 1", SYNTAX, 14);
        Texts.bad("reason 1 1 1 1 1", SYNTAX, 16);
        Texts.bad("reason 1 1 1 1 1 needs", SYNTAX, 22);
        Texts.bad("reason 1 1 1 1 1 needs 1", SYNTAX, 24);
        Texts.bad("score", SYNTAX, 5);
        Texts.bad("score (", SYNTAX, 7);
        Texts.bad("score (1", SYNTAX, 8);
        Texts.bad("score (1) ", SYNTAX, 10);
        Texts.bad("score 1+", SYNTAX, 8);
        Texts.bad("lim", SYNTAX, 0);
    }

    private static void secondStatements() {
        Texts.bad("limit 1;limit 1;", SYNTAX, 8);
        Texts.bad("limit 1; limit", SYNTAX, 9);
        Texts.bad("fees 1 1;limit 1;fees 1 1;", SYNTAX, 17);
        Texts.bad("parties 1 1;parties 1 1;", SYNTAX, 12);
        Texts.bad("score 1;score 1;", SYNTAX, 8);
        Texts.bad("fees 0 0;fees1", SYNTAX, 9);
    }

    private static void ranges() {
        Texts.bad("parties 0 1;", RANGE, 8);
        Texts.bad("parties 5 1;", RANGE, 8);
        Texts.bad("parties 1 0;", RANGE, 10);
        Texts.bad("parties 1 05;", RANGE, 10);
        Texts.bad("reason 100 1 1 1 1;", RANGE, 7);
        Texts.bad("reason 1 201 1 1 1;", RANGE, 9);
        Texts.bad("reason 1 1 0 1 1;", RANGE, 11);
        Texts.bad("reason 1 1 61 1 1;", RANGE, 11);
        Texts.bad("reason 1 1 1 0 1;", RANGE, 13);
        Texts.bad("reason 1 1 1 61 1;", RANGE, 13);
        Texts.bad("reason 1 1 1 1 10000;", RANGE, 15);
        Texts.bad("reason 1 1 1 1 1 needs 8;", RANGE, 23);
        Texts.bad("reason 1 1 1 1 1 needs 1 8;", RANGE, 25);
        Texts.bad("reason 1 1 1 1 1 needs 1 33;", RANGE, 25);
        Texts.bad("fees 1000 1;", RANGE, 5);
        Texts.bad("fees 1 1000;", RANGE, 7);
        Texts.bad("limit 10000;", RANGE, 6);
        Texts.bad("limit 4294967296;", RANGE, 6);
        Texts.bad("limit 18446744073709551616;", RANGE, 6);
        Texts.bad("limit 100000000000000000000000000000000000000000000;", RANGE, 6);
        Texts.bad("score 10000;", RANGE, 6);
        Texts.bad("score 1+10000;", RANGE, 8);
        Texts.bad("score 1*(10000);", RANGE, 9);
    }

    private static void reasonsTwice() {
        Texts.bad("reason 5 1 1 1 1;reason 5 1 1 1 1;", RANGE, 24);
        Texts.bad("reason 5 1 1 1 1;reason 05 1 1 1 1;", RANGE, 24);
        Texts.bad("reason 5 1 1 1 1;reason 6 1 1 1 1;reason 5", RANGE, 41);
        Texts.bad("reason 1 1 1 1 1 needs 0 0;", RANGE, 25);
        Texts.bad("reason 1 1 1 1 1 needs 7 07;", RANGE, 25);
        Texts.bad("reason 1 1 1 1 1 needs 0 1 2 3 4 5 6 7 0;", RANGE, 39);
        Texts.bad("reason 1 1 1 1 1 needs 0 1 2 3 4 5 6 7 8;", RANGE, 39);
        // Nothing is declared at first: code 0 is free although the rows hold 0.
        Texts.good("reason 0 1 1 1 1;", 1);
        Texts.good("reason 1 1 1 1 1;reason 0 1 1 1 1;", 2);
    }

    private static void tooManyReasons() {
        StringBuilder text = new StringBuilder();
        for (int i = 0; i < 8; i++) {
            text.append("reason ").append(i).append(" 1 1 1 1;");
        }
        Texts.good(text.toString(), 8);
        Texts.bad(text + "reason 8 1 1 1 1;", MANY, text.length());
        Texts.bad(text + " reason", MANY, text.length() + 1);
        Texts.bad(text + "reasons", SYNTAX, text.length());
        Texts.bad(text + "limit 10000;reason 8 1 1 1 1;", RANGE, text.length() + 6);
        ChargebackProcessor x = Due.with(text.toString());
        Due.is("the last code", x.reasonOf(7), 7);
    }

    private static void tooDeep() {
        Texts.bad("score (((((1)))));", DEEP, 10);
        Texts.bad("score (((((", DEEP, 10);
        Texts.bad("score ((((((1))))));", DEEP, 10);
        Texts.bad("score ((((1)(", SYNTAX, 12);
        Texts.bad("score ((((1+(2)))));", DEEP, 12);
        Texts.bad("score ((((1*(", DEEP, 12);
        Texts.good("score ((((1)+1)+1)+1)*((((1))));", 0);
    }

    private static void firstErrorCounts() {
        Texts.bad("parties 9 x", RANGE, 8);
        Texts.bad("parties x 9", SYNTAX, 8);
        Texts.bad("limit 10000 %", RANGE, 6);
        Texts.bad("limit 1;% limit 1;", SYNTAX, 8);
        Texts.bad("reason 1 1 1 1 1;reason 1 999 0 0 0", RANGE, 24);
        Texts.bad("score 1;limit 1;score (((((1", SYNTAX, 16);
        Texts.bad("limit 5 99999;", SYNTAX, 8);
    }

    private static void errorsChangeNothing() {
        ChargebackProcessor x = Due.with("parties 2 2;reason 4 9 9 9 9;fees 7 8;score 42;limit 3;");
        x.purchase(1, 1, 500);
        x.file(0, 0, 100);
        x.pass(1);
        long before = x.checksum();
        Due.is("load", Due.load(x, "parties 3 3;reason 1 1 1 1 1;fees 1 1;score 1;limit 1;x"), SYNTAX);
        Due.is("issuers", x.issuerCount(), 2);
        Due.is("merchants", x.merchantCount(), 2);
        Due.is("reasonOf", x.reasonOf(4), 0);
        Due.is("reasonOf the other", x.reasonOf(1), -1);
        Due.is("score", x.score(0), 42);
        Due.is("checksum", x.checksum(), before);
        Due.is("undo, of pass and not of load,", x.undo(), 3);
        Due.is("today", x.today(), 0);
        x.represent(0, 3);
        x.escalate(0);
        x.pass(2);
        Due.is("a good load", Due.load(x, "parties 1 3;"), 0);
        Due.is("all data are new: purchases", x.purchaseCount(), 0);
        Due.is("all data are new: disputes", x.disputeCount(), 0);
        Due.is("all data are new: today", x.today(), 0);
        Due.is("all data are new: checksum", x.checksum(), 0);
        Due.is("all data are new: network", x.networkAccount(), 0);
        Due.is("another load", Due.load(x, "parties 4 4;reason 1 5 2 1 1;"), 1);
        for (int i = 0; i < 4; i++) {
            Due.is("all data are new: issuer " + i, x.issuerAccount(i), 0);
            Due.is("all data are new: merchant " + i, x.merchantAccount(i), 0);
        }
        x.purchase(0, 0, 10);
        Due.is("a dispute where another one was", x.file(0, 0, 5), 0);
        Due.is("its state", x.state(0), ChargebackProcessor.FILED);
        Due.is("its evidence", x.evidence(0), 0);
        Due.is("its deadline", x.deadline(0), 2);
    }

    private static void longTexts() {
        StringBuilder sum = new StringBuilder("reason 1 1 1 1 1;score 1");
        while (sum.length() < 897) {
            sum.append("+1");
        }
        sum.append("; ");
        ChargebackProcessor x = Due.with(sum.toString());
        x.purchase(0, 0, 1);
        x.file(0, 0, 1);
        Due.is("a long sum", x.score(0), (sum.length() - "reason 1 1 1 1 1;score ".length() - 1) / 2);
        Texts.bad(" ".repeat(899) + "(", SYNTAX, 899);
        Texts.bad("a".repeat(900), SYNTAX, 0);
        Texts.good("limit " + "0".repeat(893) + ";", 0);
        Texts.bad("limit " + "9".repeat(894), RANGE, 6);
    }
}
