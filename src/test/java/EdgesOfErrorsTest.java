import java.util.function.Supplier;

/** The edges of the errors of a setup text, and of what load leaves behind: promises 3 and 4. */
public final class EdgesOfErrorsTest {
    private static final int SYNTAX = Texts.SYNTAX;
    private static final int RANGE = Texts.RANGE;
    private static final int MANY = Texts.MANY;
    private static final int DEEP = Texts.DEEP;

    private static final String EIGHT = Texts.reasons(8);

    public static void main(String[] args) {
        smallestOffset();
        sameOffset();
        tokens();
        tooEarly();
        secondStatements();
        numbers();
        codesTwice();
        typesTwice();
        tooMany();
        tooDeep();
        errorChangesNothing();
        bufferIsEmpty();
        replaced();
        offsets();
        Due.end();
    }

    /** Every kind of error before every other kind. */
    private static void smallestOffset() {
        Due.sentence("The first error in the text is the one with the smallest offset.");
        String[] texts = {"fees x;", "parties 9 1;", "reason 50 1 1 1 1;", "score (((((1)))));", "limit 10000;", "score 1);"};
        int[] codes = {SYNTAX, RANGE, MANY, DEEP, RANGE, SYNTAX};
        int[] offsets = {5, 8, 0, 10, 6, 7};
        for (int first = 0; first < texts.length; first++) {
            for (String second : texts) {
                Texts.bad(EIGHT + texts[first] + second, codes[first], EIGHT.length() + offsets[first]);
            }
        }
        Texts.bad("parties 9 x", RANGE, 8);
        Texts.bad("parties x 9", SYNTAX, 8);
        Texts.bad("parties 1 9 9", RANGE, 10);
        Texts.bad("reason 100 201 0 0 10000 needs 8", RANGE, 7);
        Texts.bad("limit 10000", RANGE, 6);
        Texts.bad("score (((((", DEEP, 10);
        Texts.bad("score 10000+(((((", RANGE, 6);
        Texts.bad(EIGHT + "reason", MANY, EIGHT.length());
        Texts.bad(EIGHT + "reason x", MANY, EIGHT.length());
        Texts.bad(EIGHT + "reason 100", MANY, EIGHT.length());
        Texts.bad(EIGHT + "reason 0 1 1 1 1;", MANY, EIGHT.length());
    }

    private static void sameOffset() {
        Due.sentence("If several kinds of error have the same offset, the first one in this list counts:");
        Texts.bad("limit 1 10000;", SYNTAX, 8);
        Texts.bad("parties 1 1 9;", SYNTAX, 12);
        Texts.bad("score 1 10000;", SYNTAX, 8);
        Texts.bad("10000;", SYNTAX, 0);
        Texts.bad("reason 1 1 1 1 1 10000;", SYNTAX, 17);
        Texts.bad(EIGHT + "limit reason 50 1 1 1 1;", SYNTAX, EIGHT.length() + 6);
        Texts.bad(EIGHT + "limit 1 reason 50 1 1 1 1;", SYNTAX, EIGHT.length() + 8);
        Texts.bad(EIGHT + "score 1+reason", SYNTAX, EIGHT.length() + 8);
        Texts.bad("score ((((1(2)))));", SYNTAX, 11);
        Texts.bad("score ((((count(", SYNTAX, 15);
        Texts.bad("score ((((1)(2))));", SYNTAX, 12);
    }

    private static void tokens() {
        Due.sentence("SYNTAX_ERROR: a token or byte that the grammar does not allow here, at its first byte;");
        Texts.bad("limit  notanumber;", SYNTAX, 7);
        Texts.bad("  limits 1;", SYNTAX, 2);
        Texts.bad("limit 1   fees 1 1;", SYNTAX, 10);
        Texts.bad("limit 1  123456;", SYNTAX, 9);
        Texts.bad("score  counts;", SYNTAX, 7);
        Texts.bad("lim", SYNTAX, 0);
        Texts.bad("limit 1;reas", SYNTAX, 8);
        Texts.bad("limit 1;\u00ff", SYNTAX, 8);
        Texts.bad("\0", SYNTAX, 0);
    }

    /** Every beginning of a text, with and without spaces behind it. */
    private static void tooEarly() {
        Due.sentence("the end of the text, at its length, if the text ends too early;");
        String[] tokens = {"reason ", "1 ", "1 ", "1 ", "1 ", "1 ", "needs ", "1 ", "2 ", "; ", "parties ", "1 ", "1 ", "; ", "fees ", "1 ", "1 ", "; ",
            "score ", "( ", "1 ", "+ ", "count ", ") ", "* ", "2 ", "; ", "limit ", "1 ", "; "};
        String text = "";
        int reasons = 0;
        for (String token : tokens) {
            text += token;
            if (token.equals("; ")) {
                reasons = 1;
                Texts.good(text, reasons);
                Texts.good(text + "   ", reasons);
            } else {
                Texts.bad(text.trim(), SYNTAX, text.trim().length());
                Texts.bad(text, SYNTAX, text.length());
                Texts.bad(text + "   ", SYNTAX, text.length() + 3);
            }
        }
        Texts.bad("limit" + " ".repeat(895), SYNTAX, 900);
    }

    private static void secondStatements() {
        Due.sentence("a second parties, fees, score or limit, at its first letter.");
        for (String statement : new String[] {"parties 1 1;", "fees 1 1;", "score 1;", "limit 1;"}) {
            String first = statement + "reason 5 1 1 1 1;";
            Texts.bad(first + statement, SYNTAX, first.length());
            Texts.bad(first + "  " + statement, SYNTAX, first.length() + 2);
            Texts.bad(first + statement.substring(0, statement.indexOf(' ')), SYNTAX, first.length());
            Texts.bad(first + statement.replace("1", "10000"), SYNTAX, first.length());
            Texts.bad(statement + statement, SYNTAX, statement.length());
        }
    }

    private static void numbers() {
        Due.sentence("OUT_OF_RANGE: a number outside its range, at its first digit;");
        ends("parties ", " 1;", 1, 4, 0);
        ends("parties 1 ", ";", 1, 4, 0);
        ends("reason ", " 1 1 1 1;", 0, 99, 1);
        ends("reason 1 ", " 1 1 1;", 0, 200, 1);
        ends("reason 1 1 ", " 1 1;", 1, 60, 1);
        ends("reason 1 1 1 ", " 1;", 1, 60, 1);
        ends("reason 1 1 1 1 ", ";", 0, 9999, 1);
        ends("reason 1 1 1 1 ", " needs 1;", 0, 9999, 1);
        ends("reason 1 1 1 1 1 needs ", ";", 0, 7, 1);
        ends("reason 1 1 1 1 1 needs 3 ", ";", 0, 7, 1);
        ends("reason 1 1 1 1 1 needs 3 4 ", ";", 0, 7, 1);
        ends("fees ", " 1;", 0, 999, 0);
        ends("fees 1 ", ";", 0, 999, 0);
        ends("limit ", ";", 0, 9999, 0);
        ends("score ", ";", 0, 9999, 0);
        ends("score 1-", ";", 0, 9999, 0);
        ends("score (((( ", "))));", 0, 9999, 0);
    }

    /** The smallest and the greatest number are right; those beyond them are not, however long. */
    private static void ends(String before, String behind, int low, int high, int reasons) {
        Texts.good(before + low + behind, reasons);
        Texts.good(before + high + behind, reasons);
        Texts.good(before + "000000000000" + low + behind, reasons);
        Texts.good(before + "000000000000" + high + behind, reasons);
        if (low > 0) {
            Texts.bad(before + (low - 1) + behind, RANGE, before.length());
            Texts.bad(before + "000" + behind, RANGE, before.length());
        }
        Texts.bad(before + (high + 1) + behind, RANGE, before.length());
        Texts.bad(before + "  0" + (high + 1) + behind, RANGE, before.length() + 2);
        Texts.bad(before + (high + 1), RANGE, before.length());
        // One more than a power of two, so that a number that wraps around would be right.
        Texts.bad(before + "257" + "0".repeat(20) + behind, RANGE, before.length());
        Texts.bad(before + "4294967297" + behind, RANGE, before.length());
        Texts.bad(before + "8589934593" + behind, RANGE, before.length());
        Texts.bad(before + "18446744073709551617" + behind, RANGE, before.length());
        Texts.bad(before + "1" + "0".repeat(800) + behind, RANGE, before.length());
    }

    private static void codesTwice() {
        Due.sentence("a code that another reason has;");
        Texts.good("reason 5 1 1 1 1;reason 6 1 1 1 1;", 2);
        Texts.good("reason 5 6 7 8 9;reason 6 6 7 8 9;", 2);
        Texts.bad("reason 5 1 1 1 1;reason 5 1 1 1 1;", RANGE, 24);
        Texts.bad("reason 5 1 1 1 1;reason 005 1 1 1 1;", RANGE, 24);
        Texts.bad("reason 0 1 1 1 1;reason 0 1 1 1 1;", RANGE, 24);
        Texts.bad("reason 99 1 1 1 1;reason 99 1 1 1 1;", RANGE, 25);
        Texts.bad("reason 5 1 1 1 1;reason 5", RANGE, 24);
        String seven = Texts.reasons(7);
        for (int code = 0; code < 7; code++) {
            Texts.bad(seven + "reason " + code + " 1 1 1 1;", RANGE, seven.length() + 7);
        }
        Texts.good(seven + "reason 7 1 1 1 1;", 8);
        ChargebackProcessor x = Due.with("reason 5 1 1 1 1;");
        Due.is("the code of a reason of the text before", Due.load(x, "reason 5 1 1 1 1;"), 1);
    }

    private static void typesTwice() {
        Due.sentence("a type of evidence that is given twice in a statement.");
        for (int type = 0; type <= 7; type++) {
            Texts.bad("reason 1 1 1 1 1 needs " + type + " " + type + ";", RANGE, 25);
            Texts.bad("reason 1 1 1 1 1 needs " + type + " 0" + type + ";", RANGE, 25);
            Texts.bad("reason 1 1 1 1 1 needs 0 1 2 3 4 5 6 7 " + type + ";", RANGE, 39);
            Texts.good("reason 1 1 1 1 1 needs " + type + ";reason 2 1 1 1 1 needs " + type + ";", 2);
        }
        Texts.good("reason 1 1 1 1 1 needs 0 1 2 3 4 5 6 7;", 1);
        Texts.bad("reason 1 1 1 1 1 needs 0 1 2 3 4 5 6 7 8;", RANGE, 39);
        Texts.bad("reason 1 1 1 1 1 needs 1 2 1", RANGE, 27);
    }

    private static void tooMany() {
        Due.sentence("TOO_MANY: a reason beyond the maximum number, at the first letter of its statement.");
        Texts.good(Texts.reasons(7), 7);
        Texts.good(EIGHT, 8);
        Texts.good(EIGHT + "limit 1;score 1;fees 1 1;parties 1 1;", 8);
        Texts.bad(Texts.reasons(9), MANY, EIGHT.length());
        Texts.bad(Texts.reasons(10), MANY, EIGHT.length());
        Texts.bad(EIGHT + "   reason 50 1 1 1 1;", MANY, EIGHT.length() + 3);
        Texts.bad(EIGHT + "limit 1;reason 50 1 1 1 1;", MANY, EIGHT.length() + 8);
        Texts.bad(EIGHT + "reasons 50 1 1 1 1;", SYNTAX, EIGHT.length());
    }

    private static void tooDeep() {
        Due.sentence("TOO_DEEP: an opening parenthesis inside 4 others, at that parenthesis.");
        Texts.good("score ((((1))));", 0);
        Texts.bad("score (((((1)))));", DEEP, 10);
        Texts.bad("score ( ( ( (  (1)))));", DEEP, 15);
        Texts.bad("score ((((1+(1)))));", DEEP, 12);
        Texts.bad("score ((((1*(1)))));", DEEP, 12);
        // A closed parenthesis is not one of the 4.
        Texts.good("score ((((1)+(1))));", 0);
        Texts.bad("score ((((1)+(1+(1)))));", DEEP, 16);
        Texts.good("score (((1)+(1+(1))));", 0);
        Texts.bad("score (((1)+(1+(1+(1)))));", DEEP, 18);
        Texts.bad("score (((1)+(1+((1)))));", DEEP, 16);
        Texts.bad("score (((((", DEEP, 10);
    }

    private static void errorChangesNothing() {
        Due.sentence("An error leaves all other data unchanged.");
        String[] errors = {"parties 3 4;fees 9 9;limit 0;score 9;reason 3 5 5 5 5;x", "parties 3 4;fees 9 9;limit 0;score 10000;",
            Texts.reasons(9), "limit 0;parties 4 4;score (((((1)))));", "reason 1 1 1 1 1;reason 1 1 1 1 1;", "score 99;limit 0"};
        Supplier<ChargebackProcessor> busy = () -> {
            ChargebackProcessor x = Due.with("parties 2 2;fees 3 5;reason 1 60 9 9 2 needs 1;reason 2 60 9 9 2;score count+needed;limit 400;");
            x.purchase(0, 0, 100);
            x.purchase(1, 1, 200);
            x.file(0, 0, 50);
            x.represent(0, 3);
            x.pass(2);
            x.file(1, 1, 60);
            return x;
        };
        for (String error : errors) {
            Due.is("load of \"" + error + "\" is an error", Due.load(busy.get(), error) < 0, true);
            Twins.sameData("load of \"" + error + "\"", busy, x -> Due.load(x, error));
        }
    }

    private static void bufferIsEmpty() {
        Due.sentence("The input buffer is empty afterwards, also if the text has an error.");
        for (String text : new String[] {"limit 1;", "limit x;", "", "limit 10000;", "score (((((1)))));", Texts.reasons(9)}) {
            ChargebackProcessor x = new ChargebackProcessor();
            Due.load(x, text);
            Due.argumentThrow("load(1) after \"" + text + "\"", () -> x.load(1));
            Due.is("append after \"" + text + "\"", x.append(0x20202020, 0x20202020, 0x20202020, 0x20202020, 0x20202020), 20);
            Due.is("load(20) after it", x.load(20), 0);
        }
        ChargebackProcessor y = new ChargebackProcessor();
        Due.append(y, "limit 1;" + " ".repeat(892));
        Due.is("load of a part", y.load(8), 0);
        Due.argumentThrow("the other part is gone", () -> y.load(1));
        Due.is("the whole buffer is free", Due.append(y, " ".repeat(900)), 900);
        Due.is("load(900)", y.load(900), 0);
        Due.append(y, "limit 1;" + " ".repeat(892));
        Due.is("load of nothing", y.load(0), 0);
        Due.argumentThrow("all is gone", () -> y.load(1));
    }

    private static void replaced() {
        Due.sentence("Today is day 0 then, all accounts are 0, and there are no purchases and disputes.");
        ChargebackProcessor x = Due.with("parties 4 4;fees 9 9;reason 1 60 9 9 2;limit 0;score 7;");
        for (int i = 0; i < 24; i++) {
            x.purchase(i % 4, i % 4, 1000 + i);
        }
        for (int i = 0; i < 20; i++) {
            x.file(i, 0, 900);
        }
        x.represent(0, 255);
        x.pass(100);
        Due.is("load", Due.load(x, "parties 4 4;reason 1 60 9 9 2;"), 1);
        ChargebackProcessor y = Due.with("parties 4 4;reason 1 60 9 9 2;");
        Due.is("today", x.today(), 0);
        Due.same("all data", Twins.seen(x), Twins.seen(y));
        Due.is("a first purchase", x.purchase(3, 3, 50), 0);
        Due.is("a first dispute", x.file(0, 0, 20), 0);
        Due.is("its set is empty", x.evidence(0), 0);
        y.purchase(3, 3, 50);
        y.file(0, 0, 20);
        Due.same("all data then", Twins.seen(x), Twins.seen(y));
        Due.sentence("Reads the first bytes of the input buffer as a setup text and replaces all data by it.");
        Due.is("an empty text", x.load(0), 0);
        Due.same("all data of an empty text", Twins.seen(x), Twins.seen(new ChargebackProcessor()));
    }

    private static void offsets() {
        Due.sentence("Returns the offset of the error found by the latest call of load that did not throw; -1 if it found none or if there was no such call.");
        ChargebackProcessor x = new ChargebackProcessor();
        Due.is("no call", x.errorOffset(), -1);
        Due.argumentThrow("a load that throws", () -> x.load(1));
        Due.is("no call that did not throw", x.errorOffset(), -1);
        Due.load(x, "?");
        Due.is("the first byte", x.errorOffset(), 0);
        Due.argumentThrow("a load that throws", () -> x.load(-1));
        Due.is("the call before it", x.errorOffset(), 0);
        Due.load(x, "limit ?");
        Due.is("the latest of two", x.errorOffset(), 6);
        x.append(0, 0, 0, 0, 0);
        Due.is("append does not count", x.errorOffset(), 6);
        x.purchase(0, 0, 1);
        x.undo();
        Due.is("undo does not count", x.errorOffset(), 6);
        x.load(0);
        Due.is("none", x.errorOffset(), -1);
        Due.load(x, "limit" + " ".repeat(895));
        Due.is("the end of the longest text", x.errorOffset(), 900);
        Due.load(x, "limit 1;");
        Due.is("none again", x.errorOffset(), -1);
    }
}
