/** Promises 35 and 36: undo, and the checksum. */
public final class UndoTest {
    public static void main(String[] args) {
        eachChange();
        eightChanges();
        changesAfterUndo();
        bufferAndOffset();
        loads();
        checksums();
        Due.end();
    }

    /** Every changing method counts once, and undo brings back what was there. */
    private static void eachChange() {
        ChargebackProcessor x = new ChargebackProcessor();
        long[] sums = new long[8];
        sums[0] = x.checksum();
        Due.load(x, "fees 1 2;reason 1 99 9 9 0;");
        sums[1] = x.checksum();
        x.purchase(0, 0, 50);
        sums[2] = x.checksum();
        x.file(0, 0, 20);
        sums[3] = x.checksum();
        x.represent(0, 5);
        sums[4] = x.checksum();
        x.escalate(0);
        sums[5] = x.checksum();
        x.contest(0, 2);
        sums[6] = x.checksum();
        x.pass(11);
        sums[7] = x.checksum();
        x.file(0, 0, 50);
        Due.is("undo of file", x.undo(), 7);
        Due.is("what pass left", x.checksum(), sums[7]);
        Due.is("undo of pass", x.undo(), 6);
        Due.is("what contest left", x.checksum(), sums[6]);
        Due.is("today", x.today(), 0);
        Due.is("undo of contest", x.undo(), 5);
        Due.is("what escalate left", x.checksum(), sums[5]);
        Due.is("undo of escalate", x.undo(), 4);
        Due.is("what represent left", x.checksum(), sums[4]);
        Due.is("undo of represent", x.undo(), 3);
        Due.is("what file left", x.checksum(), sums[3]);
        x.accept(0);
        Due.is("undo of accept", x.undo(), 3);
        Due.is("what file left", x.checksum(), sums[3]);
        Due.is("undo of file", x.undo(), 2);
        Due.is("what purchase left", x.checksum(), sums[2]);
        Due.is("undo of purchase", x.undo(), 1);
        Due.is("what load left", x.checksum(), sums[1]);
        Due.is("purchaseCount", x.purchaseCount(), 0);
        Due.is("reasonCount", x.reasonCount(), 1);
        Due.is("undo of load", x.undo(), 0);
        Due.is("what was there at first", x.checksum(), sums[0]);
        Due.is("reasonCount", x.reasonCount(), 0);
        Due.is("nothing is left", x.undo(), -1);
        Due.is("and nothing changes", x.checksum(), sums[0]);
    }

    private static void eightChanges() {
        ChargebackProcessor x = new ChargebackProcessor();
        for (int i = 0; i < 20; i++) {
            x.pass(1);
        }
        for (int left = 7; left >= 0; left--) {
            Due.is("undo", x.undo(), left);
            Due.is("today", x.today(), 12 + left);
        }
        Due.is("the ninth undo", x.undo(), -1);
        Due.is("today", x.today(), 12);
    }

    private static void changesAfterUndo() {
        ChargebackProcessor x = new ChargebackProcessor();
        for (int i = 0; i < 10; i++) {
            x.pass(1);
        }
        x.undo();
        x.undo();
        x.undo();
        x.pass(50);
        Due.is("five are left, and the new one", x.undo(), 5);
        Due.is("today", x.today(), 7);
        x.pass(50);
        x.pass(50);
        x.pass(50);
        x.pass(50);
        Due.is("never more than 8", x.undo(), 7);
        for (int i = 0; i < 7; i++) {
            x.undo();
        }
        Due.is("today", x.today(), 3);
        Due.is("no more", x.undo(), -1);
        Due.argumentThrow("a call that throws is no change", () -> x.pass(0));
        Due.is("still no more", x.undo(), -1);
    }

    private static void bufferAndOffset() {
        ChargebackProcessor x = new ChargebackProcessor();
        Due.load(x, "limit 5;");
        Due.load(x, "limit x;");
        Due.is("errorOffset", x.errorOffset(), 6);
        int length = Due.append(x, "parties 2 2;");
        Due.is("undo of the first load", x.undo(), 0);
        Due.is("errorOffset stays", x.errorOffset(), 6);
        Due.is("the buffer stays", x.load(length), 0);
        Due.is("issuerCount", x.issuerCount(), 2);
        Due.is("errorOffset of the good load", x.errorOffset(), -1);
        Due.is("undo does not fill the buffer", x.undo(), 0);
        Due.argumentThrow("load", () -> x.load(1));
    }

    private static void loads() {
        ChargebackProcessor x = Due.with("parties 2 3;fees 5 6;limit 0;score 77;reason 8 9 9 9 0 needs 2;");
        x.purchase(1, 2, 500);
        x.file(0, 0, 100);
        x.pass(3);
        long before = x.checksum();
        Due.is("another load", Due.load(x, "reason 1 1 1 1 1;reason 2 1 1 1 1;"), 2);
        x.purchase(0, 0, 9);
        x.pass(9);
        x.undo();
        x.undo();
        Due.is("undo of load", x.undo(), 4);
        Due.is("checksum", x.checksum(), before);
        Due.is("issuerCount", x.issuerCount(), 2);
        Due.is("merchantCount", x.merchantCount(), 3);
        Due.is("reasonOf(8)", x.reasonOf(8), 0);
        Due.is("reasonOf(1)", x.reasonOf(1), -1);
        Due.is("score", x.score(0), 77);
        Due.is("isWatched", x.isWatched(2), true);
        Due.is("wouldWin", x.wouldWin(0, 4), true);
        Due.is("wouldWin without what is needed", x.wouldWin(0, 251), false);
        Due.is("settled", x.settled(2), 395);
        Due.is("rate", x.rate(2), 1000);
    }

    private static void checksums() {
        ChargebackProcessor x = Due.with("parties 2 3;fees 5 6;reason 8 9 9 9 0;");
        x.pass(4);
        x.purchase(1, 2, 500);
        x.purchase(0, 0, 70);
        x.file(0, 0, 100);
        x.file(1, 0, 70);
        x.represent(1, 9);
        x.accept(1);
        long[] numbers = {4, -75, -400, 70, 0, 395, 10, 100, 0, 0, 13, 0, 5, -1, 9};
        long sum = 0;
        for (long number : numbers) {
            sum = 31 * sum + number;
        }
        Due.is("checksum", x.checksum(), sum);
        ChargebackProcessor y = new ChargebackProcessor();
        y.pass(2);
        Due.is("a small checksum", y.checksum(), 2L * 31 * 31 * 31);
        y.purchase(0, 0, 3);
        Due.is("a purchase", y.checksum(), (((2L * 31 - 3) * 31 + 3) * 31 + 0) * 31 + 0);
    }
}
