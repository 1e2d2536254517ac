import java.io.IOException;
import java.nio.file.Files;
import java.nio.file.Path;

/** What README.md says behind its calls is what they answer. */
public final class ReadmeTest {
    private static final String MARK = "// ";

    private final String[] lines;

    private ReadmeTest(String readme) {
        lines = readme.split("\n");
    }

    public static void main(String[] args) throws IOException {
        ReadmeTest test = new ReadmeTest(Files.readString(Path.of("README.md")));
        test.example();
        statements();
        Due.end();
    }

    private void example() {
        ChargebackProcessor x = new ChargebackProcessor();
        says("x.append(0x72656173, 0x6f6e2037, 0x20333020, 0x35203420, 0x313b2020);", x.append(0x72656173, 0x6f6e2037, 0x20333020, 0x35203420, 0x313b2020));
        says("x.load(18);", x.load(18));
        int purchase = x.purchase(0, 0, 1000);
        says("x.purchase(0, 0, 1000);", purchase);
        int dispute = x.file(purchase, x.reasonOf(7), 600);
        says("x.file(purchase, x.reasonOf(7), 600);", dispute);
        says("x.represent(dispute, 1);", x.represent(dispute, 1));
        says("x.escalate(dispute);", x.escalate(dispute));
        says("x.contest(dispute, 2);", x.contest(dispute, 2));
        says("x.settled(0);", x.settled(0));
        says("x.pass(11);", x.pass(11));
        says("x.state(dispute);", x.state(dispute));
        says("x.undo();", x.undo());
    }

    /** The number behind the mark in the line with this call. */
    private void says(String call, int answer) {
        for (String line : lines) {
            int mark = line.indexOf(MARK);
            if (line.contains(call) && mark >= 0) {
                Due.same(call, Integer.toString(answer), line.substring(mark + MARK.length(), line.indexOf(':', mark)));
                return;
            }
        }
        Due.same(call + " in README.md", "is missing", "is there");
    }

    private static void statements() {
        ChargebackProcessor x = new ChargebackProcessor();
        Due.is("the statements", load(x, "parties 2 3;reason 7 30 5 4 6 needs 1 3;fees 20 50;score 2 * count + needed - days / 10;limit 250;"), 1);
        Due.is("issuerCount()", x.issuerCount(), 2);
        Due.is("merchantCount()", x.merchantCount(), 3);
        Due.is("a wrong text", load(x, "limit 5; fees 1;"), ChargebackProcessor.SYNTAX_ERROR);
        Due.is("errorOffset()", x.errorOffset(), 15);
    }

    // The function that README.md gives.
    static int load(ChargebackProcessor x, String text) {
        for (int i = 0; i < text.length(); i += 20) {
            int[] w = new int[5];
            for (int k = 0; k < 20; k++) {
                int sign = i + k < text.length() ? text.charAt(i + k) : ' ';
                w[k / 4] = w[k / 4] << 8 | sign;
            }
            x.append(w[0], w[1], w[2], w[3], w[4]);
        }
        return x.load(text.length());
    }
}
