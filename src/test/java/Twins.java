import java.util.function.LongSupplier;
import java.util.function.Supplier;
import java.util.function.ToLongFunction;

/**
 * Two objects made alike, one of which also gets a call that is to change nothing. Whatever can be
 * asked, undone, done or loaded afterwards is compared. Each comparison makes new twins, so that
 * no object gets more than its 512 calls.
 */
final class Twins {
    private static final int SPACES = 0x20202020;
    private static final int MOST_UNDOS = 9;

    private Twins() {
    }

    /** The call answers so, and the data, the input buffer and the error offset are as without it. */
    static void refused(String what, String due, Supplier<ChargebackProcessor> maker, ToLongFunction<ChargebackProcessor> call) {
        ChargebackProcessor x = maker.get();
        int offset = x.errorOffset();
        Due.same(what, Due.outcome(() -> call.applyAsLong(x)), due);
        Due.is("errorOffset() after " + what, x.errorOffset(), offset);
        sameData(what, maker, call);
        sameBuffer(what, maker, call);
    }

    /** What can be asked and done is as without the call, also when changes are undone. */
    static void sameData(String what, Supplier<ChargebackProcessor> maker, ToLongFunction<ChargebackProcessor> call) {
        for (int undos = 0; undos <= MOST_UNDOS; undos++) {
            ChargebackProcessor x = after(maker, call);
            ChargebackProcessor y = maker.get();
            String then = " after " + what + " and " + undos + " undos";
            for (int i = 0; i < undos; i++) {
                Due.is("undo()" + then, x.undo(), y.undo());
            }
            Due.same("what is seen" + then, seen(x), seen(y));
        }
        Due.same("what can be done after " + what, future(after(maker, call)), future(maker.get()));
    }

    private static void sameBuffer(String what, Supplier<ChargebackProcessor> maker, ToLongFunction<ChargebackProcessor> call) {
        ChargebackProcessor x = after(maker, call);
        ChargebackProcessor y = maker.get();
        int length = y.append(SPACES, SPACES, SPACES, SPACES, SPACES);
        Due.is("append after " + what, x.append(SPACES, SPACES, SPACES, SPACES, SPACES), length);
        int whole = length < 0 ? 900 : length;
        Due.same("load after " + what, Due.outcome(() -> x.load(whole)), Due.outcome(() -> y.load(whole)));
        Due.is("errorOffset() of load after " + what, x.errorOffset(), y.errorOffset());
        Due.same("what load brings after " + what, seen(x), seen(y));
    }

    private static ChargebackProcessor after(Supplier<ChargebackProcessor> maker, ToLongFunction<ChargebackProcessor> call) {
        ChargebackProcessor x = maker.get();
        Due.outcome(() -> call.applyAsLong(x));
        return x;
    }

    /** All data that can be asked for; some 200 calls if all rows are full. */
    static String seen(ChargebackProcessor x) {
        StringBuilder all = new StringBuilder();
        all.append(x.today()).append(" counts ").append(x.issuerCount()).append(' ').append(x.merchantCount()).append(' ')
                .append(x.reasonCount()).append(' ').append(x.purchaseCount()).append(' ').append(x.disputeCount())
                .append(" next ").append(x.nextDeadline()).append(" checksum ").append(x.checksum()).append(" codes");
        for (int code = 0; code < 10; code++) {
            all.append(' ').append(x.reasonOf(code));
        }
        all.append(" issuers");
        for (int i = 0; i < x.issuerCount(); i++) {
            all.append(' ').append(x.issuerAccount(i));
        }
        for (int i = 0; i < x.merchantCount(); i++) {
            all.append(" merchant ").append(x.merchantAccount(i)).append(' ').append(x.rate(i)).append(' ').append(x.isWatched(i))
                    .append(' ').append(x.exposure(i)).append(' ').append(x.settled(i));
        }
        all.append(" network ").append(x.networkAccount()).append(" disputed");
        for (int i = 0; i < x.purchaseCount(); i++) {
            all.append(' ').append(x.disputed(i));
        }
        for (int i = 0; i < x.disputeCount(); i++) {
            all.append(" dispute ").append(x.state(i)).append(' ').append(x.deadline(i)).append(' ').append(x.evidence(i)).append(' ')
                    .append(x.isWithMerchant(i)).append(' ').append(x.score(i)).append(' ').append(x.wouldWin(i, 255)).append(' ').append(x.bestEvidence(i));
        }
        return all.toString();
    }

    /** What changes answer: they tell what cannot be asked, such as the day of a purchase. */
    private static String future(ChargebackProcessor x) {
        StringBuilder all = new StringBuilder();
        step(all, x, () -> x.purchase(0, 0, 7));
        for (int i = 0; i < x.purchaseCount(); i++) {
            int purchase = i;
            step(all, x, () -> x.file(purchase, 0, 1));
            step(all, x, () -> x.file(purchase, x.reasonCount() - 1, 2));
        }
        for (int i = 0; i < x.disputeCount(); i++) {
            int dispute = i;
            step(all, x, () -> x.represent(dispute, 2));
            step(all, x, () -> x.escalate(dispute));
        }
        step(all, x, () -> x.contest(0, 4));
        step(all, x, () -> x.pass(1));
        step(all, x, () -> x.pass(10));
        step(all, x, () -> x.pass(100));
        return all.toString();
    }

    private static void step(StringBuilder all, ChargebackProcessor x, LongSupplier call) {
        all.append(Due.outcome(call)).append('/').append(x.checksum()).append(' ');
    }
}
