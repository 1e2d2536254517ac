import java.math.BigInteger;
import java.util.ArrayList;
import java.util.List;
import java.util.function.ToLongFunction;

/** The edges of "Changes" in the document, and promises 1, 35 and 36. */
public final class EdgesOfChangesTest {
    private static final String SETUP = "parties 2 2;fees 3 5;reason 1 90 9 9 2 needs 0;reason 2 90 4 4 0;score count+needed;limit 300;";

    public static void main(String[] args) {
        changingMethods();
        questionsAreNoChanges();
        failedLoads();
        latestEight();
        undoneOnes();
        pushedOut();
        latestFirst();
        newObject();
        refusedCalls();
        bufferStays();
        offsetStays();
        stillUndoable();
        nothingToUndo();
        undoneRowsAreUsedAgain();
        checksumStart();
        checksumOrder();
        checksumWrap();
        Due.end();
    }

    /** Each of them can be undone, alone and behind 7 others. */
    private static void changingMethods() {
        Due.sentence("The changing methods are load (when it succeeds), purchase, file, represent, escalate, contest, accept and pass.");
        List<ToLongFunction<ChargebackProcessor>> changes = new ArrayList<>();
        changes.add(x -> Due.load(x, "parties 4 4;"));
        changes.add(x -> x.load(0));
        changes.add(x -> x.purchase(1, 1, 500));
        changes.add(x -> x.file(0, 1, 10));
        changes.add(x -> x.represent(0, 9));
        changes.add(x -> x.escalate(1));
        changes.add(x -> x.contest(2, 128));
        changes.add(x -> x.accept(0));
        changes.add(x -> x.accept(1));
        changes.add(x -> x.accept(2));
        changes.add(x -> x.pass(1));
        changes.add(x -> x.pass(100));
        for (int i = 0; i < changes.size(); i++) {
            ToLongFunction<ChargebackProcessor> change = changes.get(i);
            ChargebackProcessor x = staged();
            String before = Twins.seen(x);
            Due.is("the answer of change " + i, change.applyAsLong(x) >= 0, true);
            Due.is("change " + i + " is seen", Twins.seen(x).equals(before), false);
            Due.is("undo of change " + i, x.undo(), 7);
            Due.same("all is as before change " + i, Twins.seen(x), before);
            ChargebackProcessor y = staged();
            for (int left = 6; left >= 0; left--) {
                Due.is("undo of the change before " + i, x.undo(), left);
                y.undo();
                Due.is("what was " + (7 - left) + " changes before " + i, x.checksum(), y.checksum());
            }
        }
    }

    /** Disputes that are FILED, REPRESENTED and ESCALATED; eight changes can be undone. */
    private static ChargebackProcessor staged() {
        ChargebackProcessor x = Due.with(SETUP);
        x.purchase(0, 0, 1000);
        x.file(0, 0, 100);
        x.file(0, 0, 200);
        x.represent(1, 1);
        x.file(0, 1, 300);
        x.represent(2, 2);
        x.escalate(2);
        x.pass(2);
        return x;
    }

    private static ChargebackProcessor fresh() {
        ChargebackProcessor x = Due.with(SETUP);
        x.purchase(0, 0, 1000);
        x.file(0, 0, 100);
        return x;
    }

    private static void questionsAreNoChanges() {
        Due.sentence("The changing methods are load (when it succeeds), purchase, file, represent, escalate, contest, accept and pass.");
        ChargebackProcessor x = fresh();
        String before = Twins.seen(x);
        Due.same("asked once more", Twins.seen(x), before);
        x.append(0, 0, 0, 0, 0);
        Due.same("append is no change of the data", Twins.seen(x), before);
        Due.is("load, purchase and file alone can be undone", x.undo(), 2);
    }

    private static void failedLoads() {
        Due.sentence("load (when it succeeds)");
        ChargebackProcessor x = fresh();
        Due.is("a load with an error", Due.load(x, "limit"), Texts.SYNTAX);
        Due.argumentThrow("a load that throws", () -> x.load(1));
        Due.is("undo of file", x.undo(), 2);
        Due.is("disputeCount", x.disputeCount(), 0);
        Due.is("an empty text succeeds", x.load(0), 0);
        Due.is("undo of load", x.undo(), 2);
        Due.is("purchaseCount", x.purchaseCount(), 1);
    }

    private static void latestEight() {
        Due.sentence("The latest 8 changes that have not been undone can be undone, the latest one first.");
        for (int changes = 0; changes <= 20; changes++) {
            ChargebackProcessor x = days(changes);
            int undoable = Math.min(changes, 8);
            for (int i = 1; i <= undoable; i++) {
                Due.is("undo " + i + " of " + changes, x.undo(), undoable - i);
                Due.is("today after undo " + i + " of " + changes, x.today(), changes - i);
            }
            Due.is("one undo more after " + changes, x.undo(), -1);
            Due.is("today then", x.today(), changes - undoable);
        }
    }

    private static void undoneOnes() {
        Due.sentence("The latest 8 changes that have not been undone can be undone, the latest one first.");
        ChargebackProcessor x = days(8);
        Due.is("undo", x.undo(), 7);
        Due.is("undo", x.undo(), 6);
        x.pass(10);
        Due.is("today", x.today(), 16);
        Due.is("the new change is the latest", x.undo(), 6);
        Due.is("today", x.today(), 6);
        x.pass(10);
        x.pass(10);
        Due.is("six old ones and two new ones", x.undo(), 7);
        Due.is("today", x.today(), 16);
        Due.is("undo", x.undo(), 6);
        Due.is("today", x.today(), 6);
        Due.is("undo", x.undo(), 5);
        Due.is("today", x.today(), 5);
    }

    private static void pushedOut() {
        Due.sentence("The latest 8 changes that have not been undone can be undone, the latest one first.");
        ChargebackProcessor x = days(9);
        for (int i = 0; i < 8; i++) {
            x.undo();
        }
        Due.is("the change that 8 later ones pushed out", x.undo(), -1);
        Due.is("today", x.today(), 1);
        x.pass(10);
        Due.is("undo", x.undo(), 0);
        Due.is("still out", x.undo(), -1);
        Due.is("today", x.today(), 1);
    }

    private static void latestFirst() {
        Due.sentence("the latest one first.");
        List<ToLongFunction<ChargebackProcessor>> changes = List.of(y -> y.purchase(1, 0, 700), y -> y.file(0, 0, 100), y -> y.represent(0, 1),
                y -> y.pass(3), y -> y.escalate(0), y -> y.contest(0, 4), y -> y.purchase(0, 1, 30), y -> y.pass(11));
        for (int kept = 7; kept >= 0; kept--) {
            ChargebackProcessor x = Due.with(SETUP);
            ChargebackProcessor y = Due.with(SETUP);
            for (int i = 0; i < 8; i++) {
                changes.get(i).applyAsLong(x);
                if (i < kept) {
                    changes.get(i).applyAsLong(y);
                }
            }
            for (int left = 7; left >= kept; left--) {
                Due.is("undo of change " + left, x.undo(), left);
            }
            Due.same("what was before change " + kept, Twins.seen(x), Twins.seen(y));
        }
        ChargebackProcessor x = Due.with(SETUP);
        for (ToLongFunction<ChargebackProcessor> change : changes) {
            change.applyAsLong(x);
        }
        for (int i = 0; i < 8; i++) {
            x.undo();
        }
        Due.is("load was pushed out", x.undo(), -1);
        Due.is("issuerCount", x.issuerCount(), 2);
    }

    private static void newObject() {
        Due.sentence("A new object is in the state that an empty setup text describes.");
        ChargebackProcessor x = new ChargebackProcessor();
        Due.is("load(0)", x.load(0), 0);
        Due.same("an empty text", Twins.seen(new ChargebackProcessor()), Twins.seen(x));
        ChargebackProcessor y = Due.with(SETUP);
        y.purchase(1, 1, 5);
        y.pass(9);
        y.load(0);
        Due.same("an empty text after another one", Twins.seen(y), Twins.seen(new ChargebackProcessor()));
        Due.sentence("Creates an object as described above, with an empty input buffer.");
        ChargebackProcessor z = new ChargebackProcessor();
        Due.argumentThrow("load(1)", () -> z.load(1));
        Due.is("append", z.append(0x20202020, 0x20202020, 0x20202020, 0x20202020, 0x20202020), 20);
        Due.is("undo", z.undo(), -1);
        Due.is("errorOffset", z.errorOffset(), -1);
    }

    /** A story with refused calls between all its steps, and the same story without them. */
    private static void refusedCalls() {
        Due.sentence("A method that throws an exception changes nothing.");
        List<ToLongFunction<ChargebackProcessor>> steps = List.of(x -> Due.load(x, SETUP), x -> x.purchase(1, 0, 700), x -> x.file(0, 0, 100),
                x -> x.file(0, 1, 50), x -> x.represent(0, 1), x -> x.pass(3), x -> x.escalate(0), x -> x.contest(0, 4), x -> x.accept(1),
                x -> x.undo(), x -> x.pass(11), x -> Due.load(x, "limit x"), x -> x.undo(), x -> x.pass(20), x -> x.load(0), x -> x.undo());
        ChargebackProcessor quiet = new ChargebackProcessor();
        ChargebackProcessor disturbed = new ChargebackProcessor();
        for (int i = 0; i < steps.size(); i++) {
            ToLongFunction<ChargebackProcessor> step = steps.get(i);
            refuseAll(disturbed);
            Due.is("step " + i, step.applyAsLong(disturbed), step.applyAsLong(quiet));
            Due.is("errorOffset after step " + i, disturbed.errorOffset(), quiet.errorOffset());
            Due.is("checksum after step " + i, disturbed.checksum(), quiet.checksum());
        }
        refuseAll(disturbed);
        Due.same("all data after the story", Twins.seen(disturbed), Twins.seen(quiet));
    }

    private static void refuseAll(ChargebackProcessor x) {
        Due.argumentThrow("load(901)", () -> x.load(901));
        Due.indexThrow("purchase", () -> x.purchase(-1, 0, 1));
        Due.argumentThrow("purchase of 0", () -> x.purchase(0, 0, 0));
        Due.indexThrow("file", () -> x.file(24, 0, 1));
        Due.indexThrow("represent", () -> x.represent(20, 1));
        Due.indexThrow("escalate", () -> x.escalate(-1));
        Due.indexThrow("contest", () -> x.contest(20, 1));
        Due.indexThrow("accept", () -> x.accept(20));
        Due.argumentThrow("pass(101)", () -> x.pass(101));
        Due.indexThrow("settled", () -> x.settled(4));
        Due.indexThrow("wouldWin", () -> x.wouldWin(20, 1) ? 1 : 0);
        Due.indexThrow("bestEvidence", () -> x.bestEvidence(-1));
    }

    private static void bufferStays() {
        Due.sentence("The input buffer and the error offset are not affected.");
        ChargebackProcessor x = Due.with(SETUP);
        int length = Due.append(x, "parties 3 4;");
        Due.is("undo of load", x.undo(), 0);
        Due.is("undo of nothing", x.undo(), -1);
        Due.is("what was appended is there", x.load(length), 0);
        Due.is("issuerCount", x.issuerCount(), 3);
        Due.is("undo of load", x.undo(), 0);
        Due.argumentThrow("the text that was read does not come back", () -> x.load(1));
        Due.append(x, " ".repeat(880));
        Due.is("the rest of the buffer", x.append(0, 0, 0, 0, 0), 900);
        x.undo();
        Due.is("it is full after undo too", x.append(0, 0, 0, 0, 0), -1);
    }

    private static void offsetStays() {
        Due.sentence("The input buffer and the error offset are not affected.");
        ChargebackProcessor x = Due.with(SETUP);
        Due.load(x, "limit 99999;");
        Due.is("errorOffset", x.errorOffset(), 6);
        x.undo();
        Due.is("errorOffset after undo of the load before", x.errorOffset(), 6);
        x.load(0);
        Due.is("errorOffset of the load without an error", x.errorOffset(), -1);
        x.undo();
        Due.is("errorOffset after undo of it", x.errorOffset(), -1);
    }

    private static void stillUndoable() {
        Due.sentence("Returns the number of changes that can still be undone;");
        Due.is("of one change", days(1).undo(), 0);
        Due.is("of two", days(2).undo(), 1);
        Due.is("of eight", days(8).undo(), 7);
        Due.is("of nine", days(9).undo(), 7);
        Due.is("of a hundred", days(100).undo(), 7);
    }

    private static void nothingToUndo() {
        Due.sentence("-1 if there was none to undo, and nothing changes then.");
        Twins.refused("undo of a new object", "-1", ChargebackProcessor::new, ChargebackProcessor::undo);
        Twins.refused("undo after the only change is undone", "-1", () -> {
            ChargebackProcessor x = days(1);
            x.undo();
            return x;
        }, ChargebackProcessor::undo);
        Twins.refused("the ninth undo", "-1", () -> {
            ChargebackProcessor x = staged();
            x.pass(1);
            for (int i = 0; i < 8; i++) {
                x.undo();
            }
            Due.append(x, "parties 4 3;");
            return x;
        }, ChargebackProcessor::undo);
    }

    /** What an undone change had written is not seen later. */
    private static void undoneRowsAreUsedAgain() {
        Due.sentence("Undoes the latest change that has not been undone.");
        for (int times = 1; times <= 8; times++) {
            ChargebackProcessor x = staged();
            ChargebackProcessor y = staged();
            for (int i = 0; i < times; i++) {
                x.undo();
                y.undo();
            }
            for (int i = 0; i < times; i++) {
                x.purchase(1, 1, 90000);
            }
            for (int i = 0; i < times; i++) {
                x.undo();
            }
            Due.same("as if nothing had been made, " + times + " times", Twins.seen(x), Twins.seen(y));
            Due.is("purchase", x.purchase(0, 1, 40), y.purchase(0, 1, 40));
            Due.is("file", x.file(x.purchaseCount() - 1, 0, 7), y.file(y.purchaseCount() - 1, 0, 7));
            Due.same("as if nothing had been made before that, " + times + " times", Twins.seen(x), Twins.seen(y));
        }
    }

    private static void checksumStart() {
        Due.sentence("It starts at 0; each number n in the following order replaces it by 31 * checksum + n,");
        Due.is("a new object", new ChargebackProcessor().checksum(), 0);
        Due.is("parties alone", Due.with("parties 4 4;").checksum(), 0);
        Due.is("a day", days(1).checksum(), 31 * 31 * 31);
        ChargebackProcessor x = new ChargebackProcessor();
        x.purchase(0, 0, 1);
        Due.is("a purchase of 1", x.checksum(), ((-1 * 31 + 1) * 31 + 0) * 31 + 0);
    }

    private static void checksumOrder() {
        Due.sentence("today(); the accounts of the issuers, of the merchants, and of the network; for each purchase its disputed amount; for each dispute its state, its deadline and its set of evidence.");
        for (ChargebackProcessor x : new ChargebackProcessor[] {new ChargebackProcessor(), Due.with(SETUP), fresh(), staged(), full()}) {
            Due.is("checksum", x.checksum(), numbers(x).longValue());
        }
    }

    private static void checksumWrap() {
        Due.sentence("wrapping around on overflow of a long:");
        ChargebackProcessor x = staged();
        Due.is("few numbers", numbers(x).bitLength() < 100, true);
        ChargebackProcessor y = full();
        BigInteger sum = numbers(y);
        Due.is("many numbers do not fit into a long", sum.bitLength() > 300, true);
        Due.is("checksum of many numbers", y.checksum(), sum.longValue());
    }

    /** The checksum without a bound. */
    private static BigInteger numbers(ChargebackProcessor x) {
        List<Integer> all = new ArrayList<>();
        all.add(x.today());
        for (int i = 0; i < x.issuerCount(); i++) {
            all.add(x.issuerAccount(i));
        }
        for (int i = 0; i < x.merchantCount(); i++) {
            all.add(x.merchantAccount(i));
        }
        all.add(x.networkAccount());
        for (int i = 0; i < x.purchaseCount(); i++) {
            all.add(x.disputed(i));
        }
        for (int i = 0; i < x.disputeCount(); i++) {
            all.add(x.state(i));
            all.add(x.deadline(i));
            all.add(x.evidence(i));
        }
        BigInteger sum = BigInteger.ZERO;
        for (int number : all) {
            sum = sum.multiply(BigInteger.valueOf(31)).add(BigInteger.valueOf(number));
        }
        return sum;
    }

    /** All rows are full: 4 issuers and merchants, 24 purchases, 20 disputes in all states. */
    private static ChargebackProcessor full() {
        ChargebackProcessor x = Due.with(SETUP.replace("parties 2 2", "parties 4 4"));
        x.pass(100);
        for (int i = 0; i < 24; i++) {
            x.purchase(i % 4, i / 6, 99999 - i);
        }
        for (int i = 0; i < 20; i++) {
            x.file(23 - i, i % 2, 99000 - i);
            if (i % 5 >= 1) {
                x.represent(i, 255 - i);
            }
            if (i % 5 >= 2) {
                x.escalate(i);
            }
            if (i % 5 >= 3) {
                x.contest(i, i);
            }
        }
        x.accept(0);
        x.accept(1);
        x.pass(5);
        return x;
    }

    private static ChargebackProcessor days(int changes) {
        ChargebackProcessor x = new ChargebackProcessor();
        for (int i = 0; i < changes; i++) {
            x.pass(1);
        }
        return x;
    }
}
