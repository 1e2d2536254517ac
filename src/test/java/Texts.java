/** Setup texts that are right, and those with an error at a place. */
final class Texts {
    static final int SYNTAX = ChargebackProcessor.SYNTAX_ERROR;
    static final int RANGE = ChargebackProcessor.OUT_OF_RANGE;
    static final int MANY = ChargebackProcessor.TOO_MANY;
    static final int DEEP = ChargebackProcessor.TOO_DEEP;

    private Texts() {
    }

    static void good(String text, int reasons) {
        ChargebackProcessor x = new ChargebackProcessor();
        Due.is("load of \"" + text + "\"", Due.load(x, text), reasons);
        Due.is("the offset in \"" + text + "\"", x.errorOffset(), -1);
        Due.is("the reasons of \"" + text + "\"", x.reasonCount(), reasons);
        Due.is("the change of \"" + text + "\"", x.undo(), 0);
    }

    static void bad(String text, int code, int offset) {
        ChargebackProcessor x = new ChargebackProcessor();
        Due.is("load of \"" + text + "\"", Due.load(x, text), code);
        Due.is("the offset in \"" + text + "\"", x.errorOffset(), offset);
        Due.is("the change of \"" + text + "\"", x.undo(), -1);
    }

    /** Statements of so many reasons, with the codes from 0 on. */
    static String reasons(int count) {
        StringBuilder text = new StringBuilder();
        for (int i = 0; i < count; i++) {
            text.append("reason ").append(i).append(" 1 1 1 1;");
        }
        return text.toString();
    }
}
