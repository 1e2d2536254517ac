import java.nio.charset.StandardCharsets;
import java.util.Arrays;
import java.util.function.LongSupplier;

/** What all tests share: comparing an answer with the one that is due, and loading a setup text. */
final class Due {
    static final String INDEX = "IndexOutOfBoundsException";
    static final String ARGUMENT = "IllegalArgumentException";
    static final String STATE = "IllegalStateException";

    private static int wrong = 0;
    private static String sentence = "";

    private Due() {
    }

    /** The document's words that the answers from here on are about: a wrong one names them. */
    static void sentence(String words) {
        sentence = words;
    }

    static void is(String what, long got, long want) {
        if (got != want) {
            fault(what, Long.toString(got), Long.toString(want));
        }
    }

    static void is(String what, boolean got, boolean want) {
        is(what, got ? 1 : 0, want ? 1 : 0);
    }

    static void same(String what, String got, String want) {
        if (!got.equals(want)) {
            fault(what, got, want);
        }
    }

    private static void fault(String what, String got, String want) {
        wrong++;
        System.out.println(what + " answered " + got + ", due is " + want);
        if (!sentence.isEmpty()) {
            System.out.println("    the document: " + sentence);
        }
    }

    /** The exact class is looked at: what the machine throws is of a class below it. */
    static void indexThrow(String what, LongSupplier call) {
        same(what, outcome(call), INDEX);
    }

    static void argumentThrow(String what, LongSupplier call) {
        same(what, outcome(call), ARGUMENT);
    }

    static void stateThrow(String what, LongSupplier call) {
        same(what, outcome(call), STATE);
    }

    static String outcome(LongSupplier call) {
        try {
            return Long.toString(call.getAsLong());
        } catch (RuntimeException e) {
            return e.getClass().getSimpleName();
        }
    }

    /** Appends a text, filled up with spaces to whole appends; returns its own length. */
    static int append(ChargebackProcessor x, String text) {
        byte[] bytes = text.getBytes(StandardCharsets.ISO_8859_1);
        byte[] filled = Arrays.copyOf(bytes, (bytes.length + 19) / 20 * 20);
        Arrays.fill(filled, bytes.length, filled.length, (byte) ' ');
        for (int i = 0; i < filled.length; i += 20) {
            x.append(word(filled, i), word(filled, i + 4), word(filled, i + 8), word(filled, i + 12), word(filled, i + 16));
        }
        return bytes.length;
    }

    static int load(ChargebackProcessor x, String text) {
        return x.load(append(x, text));
    }

    static ChargebackProcessor with(String text) {
        ChargebackProcessor x = new ChargebackProcessor();
        if (load(x, text) < 0) {
            is("load of \"" + text + "\", the error's offset,", x.errorOffset(), -1);
        }
        return x;
    }

    static void end() {
        if (wrong != 0) {
            System.out.println(wrong + " answers are not as due");
            System.exit(1);
        }
    }

    private static int word(byte[] bytes, int at) {
        return (bytes[at] & 255) << 24 | (bytes[at + 1] & 255) << 16 | (bytes[at + 2] & 255) << 8 | bytes[at + 3] & 255;
    }
}
