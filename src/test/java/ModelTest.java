import java.util.Random;
import java.util.function.LongSupplier;

/** Long runs of calls, drawn with fixed seeds, on the class and on the model side by side. */
public final class ModelTest {
    private static final int RUNS = 1500;
    private static final int CALLS = 512;

    private final Random random;
    private final int seed;
    private final ChargebackProcessor x = new ChargebackProcessor();
    private final Model model = new Model();
    private int calls;

    private ModelTest(int seed) {
        this.seed = seed;
        this.random = new Random(seed);
    }

    public static void main(String[] args) {
        for (int seed = 0; seed < RUNS; seed++) {
            new ModelTest(seed).run();
        }
        Due.end();
    }

    private void run() {
        loadText(random.nextInt(20) == 0);
        while (calls < CALLS) {
            int kind = random.nextInt(100);
            if (kind < 2 && random.nextInt(3) == 0) {
                loadText(random.nextInt(3) != 0);
            } else if (kind < 60) {
                change(random.nextInt(8));
            } else {
                ask(random.nextInt(23));
            }
            call("checksum()", x::checksum, model::checksum);
        }
    }

    private void call(String what, LongSupplier own, LongSupplier due) {
        // What an object answers after its 512th call is free.
        if (calls == CALLS) {
            return;
        }
        calls++;
        Due.same("run " + seed + ", call " + calls + ", " + what, Due.outcome(own), Due.outcome(due));
    }

    private static long bit(boolean answer) {
        return answer ? 1 : 0;
    }

    private void change(int which) {
        int d = dispute();
        int set = random.nextInt(12) == 0 ? random.nextInt(600) - 200 : 1 << random.nextInt(8) | 1 << random.nextInt(8);
        if (which == 0) {
            int issuer = party(model.count(0));
            int merchant = party(model.count(1));
            int amount = amount();
            call("purchase(" + issuer + ", " + merchant + ", " + amount + ")", () -> x.purchase(issuer, merchant, amount), () -> model.purchase(issuer, merchant, amount));
        } else if (which == 1) {
            int purchase = party(model.count(3));
            int reason = party(model.count(2));
            int amount = random.nextInt(3) == 0 ? amount() : 1 + random.nextInt(300);
            call("file(" + purchase + ", " + reason + ", " + amount + ")", () -> x.file(purchase, reason, amount), () -> model.file(purchase, reason, amount));
        } else if (which == 2) {
            call("represent(" + d + ", " + set + ")", () -> x.represent(d, set), () -> model.represent(d, set));
        } else if (which == 3) {
            call("escalate(" + d + ")", () -> x.escalate(d), () -> model.escalate(d));
        } else if (which == 4) {
            call("contest(" + d + ", " + set + ")", () -> x.contest(d, set), () -> model.contest(d, set));
        } else if (which == 5) {
            if (random.nextInt(3) == 0) {
                call("accept(" + d + ")", () -> x.accept(d), () -> model.accept(d));
            }
        } else if (which == 6) {
            int days = random.nextInt(15) == 0 ? random.nextInt(130) - 10 : 1 + random.nextInt(6);
            call("pass(" + days + ")", () -> x.pass(days), () -> model.pass(days));
        } else {
            int times = random.nextInt(4) == 0 ? random.nextInt(11) : random.nextInt(2);
            for (int i = 0; i < times; i++) {
                call("undo()", x::undo, model::undo);
            }
        }
    }

    private void ask(int which) {
        int d = dispute();
        int m = party(model.count(1));
        int set = random.nextInt(270) - 7;
        switch (which) {
            case 0 -> call("errorOffset()", x::errorOffset, model::errorOffset);
            case 1 -> call("issuerCount()", x::issuerCount, () -> model.count(0));
            case 2 -> call("merchantCount()", x::merchantCount, () -> model.count(1));
            case 3 -> call("reasonCount()", x::reasonCount, () -> model.count(2));
            case 4 -> call("purchaseCount()", x::purchaseCount, () -> model.count(3));
            case 5 -> call("disputeCount()", x::disputeCount, () -> model.count(4));
            case 6 -> call("today()", x::today, () -> model.count(5));
            case 7 -> call("reasonOf(" + set + ")", () -> x.reasonOf(set), () -> model.reasonOf(set));
            case 8 -> call("issuerAccount(" + m + ")", () -> x.issuerAccount(m), () -> model.issuerAccount(m));
            case 9 -> call("merchantAccount(" + m + ")", () -> x.merchantAccount(m), () -> model.merchantAccount(m));
            case 10 -> call("networkAccount()", x::networkAccount, model::networkAccount);
            case 11 -> call("disputed(" + d + ")", () -> x.disputed(d), () -> model.disputed(d));
            case 12 -> call("state(" + d + ")", () -> x.state(d), () -> model.dispute(d).state);
            case 13 -> call("deadline(" + d + ")", () -> x.deadline(d), () -> model.dispute(d).deadline);
            case 14 -> call("evidence(" + d + ")", () -> x.evidence(d), () -> model.dispute(d).evidence);
            case 15 -> call("isWithMerchant(" + d + ")", () -> bit(x.isWithMerchant(d)), () -> bit(model.dispute(d).withMerchant));
            case 16 -> call("score(" + d + ")", () -> x.score(d), () -> model.score(d));
            case 17 -> call("wouldWin(" + d + ", " + set + ")", () -> bit(x.wouldWin(d, set)), () -> bit(model.wouldWin(d, set)));
            case 18 -> call("bestEvidence(" + d + ")", () -> x.bestEvidence(d), () -> model.bestEvidence(d));
            case 19 -> call("nextDeadline()", x::nextDeadline, model::nextDeadline);
            case 20 -> call("rate(" + m + ")", () -> x.rate(m), () -> model.rate(m));
            case 21 -> {
                call("isWatched(" + m + ")", () -> bit(x.isWatched(m)), () -> bit(model.isWatched(m)));
                call("exposure(" + m + ")", () -> x.exposure(m), () -> model.exposure(m));
            }
            default -> call("settled(" + m + ")", () -> x.settled(m), () -> model.settled(m));
        }
    }

    private void loadText(boolean spoiled) {
        String text = text();
        if (spoiled) {
            text = spoil(text);
        }
        text = text.substring(0, Math.min(text.length(), 900));
        int length = text.length();
        String filled = text + " ".repeat((20 - length % 20) % 20);
        for (int i = 0; i < filled.length(); i += 20) {
            int[] w = new int[5];
            for (int k = 0; k < 20; k++) {
                w[k / 4] = w[k / 4] << 8 | filled.charAt(i + k);
            }
            call("append", () -> x.append(w[0], w[1], w[2], w[3], w[4]), () -> model.append(w));
        }
        int wanted = random.nextInt(30) == 0 ? length + random.nextInt(80) - 40 : length;
        call("load(" + wanted + ") of \"" + text + "\"", () -> x.load(wanted), () -> model.load(wanted));
        call("errorOffset() of \"" + text + "\"", x::errorOffset, model::errorOffset);
    }

    private String text() {
        StringBuilder text = new StringBuilder();
        if (random.nextInt(4) != 0) {
            text.append("parties").append(number(1, 4)).append(number(1, 4)).append(" ;");
        }
        int reasons = random.nextInt(25) == 0 ? 9 : 1 + random.nextInt(5);
        int code = random.nextInt(10);
        for (int i = 0; i < reasons; i++) {
            text.append(" reason").append(number(code, code)).append(number(10, 200)).append(number(1, 20)).append(number(1, 20)).append(number(0, 6));
            code += random.nextInt(30) == 0 ? 0 : 1 + random.nextInt(10);
            if (random.nextBoolean()) {
                text.append(" needs").append(number(0, 7));
                if (random.nextBoolean()) {
                    text.append(number(0, 7));
                }
            }
            text.append(random.nextInt(60) == 0 ? "" : ";");
        }
        if (random.nextBoolean()) {
            text.append("fees").append(number(0, 999)).append(number(0, 999)).append(";");
        }
        if (random.nextInt(3) != 0) {
            text.append("score ").append(sum(0)).append(";");
        }
        if (random.nextBoolean()) {
            text.append("limit").append(number(0, 2000)).append(";");
        }
        return text.toString();
    }

    private String number(int low, int high) {
        int value = random.nextInt(150) == 0 ? high + 1 : low + random.nextInt(high - low + 1);
        return (random.nextInt(5) == 0 ? "  " : " ") + (random.nextInt(20) == 0 ? "0" : "") + value;
    }

    private String sum(int depth) {
        StringBuilder text = new StringBuilder(term(depth));
        for (int i = random.nextInt(3); i > 0; i--) {
            text.append(random.nextBoolean() ? "+" : " - ").append(term(depth));
        }
        return text.toString();
    }

    private String term(int depth) {
        StringBuilder text = new StringBuilder(factor(depth));
        for (int i = random.nextInt(3) / 2 + random.nextInt(3) / 2; i > 0; i--) {
            text.append(random.nextBoolean() ? "*" : " / ").append(factor(depth));
        }
        return text.toString();
    }

    private String factor(int depth) {
        int kind = random.nextInt(8);
        if (kind < 2 && depth < (random.nextInt(20) == 0 ? 6 : 4)) {
            return "(" + sum(depth + 1) + ")";
        }
        if (kind < 4) {
            return Integer.toString(random.nextInt(5) == 0 ? random.nextInt(10010) : random.nextInt(10));
        }
        return new String[] {"count", "needed", "amount", "days"}[random.nextInt(4)];
    }

    /** Cuts, doubles or changes a few places. */
    private String spoil(String text) {
        StringBuilder spoiled = new StringBuilder(text);
        String signs = "abcdz 019;+-*/()%,\0\u00ff\u0080AZ`{:";
        for (int i = random.nextInt(3); i >= 0 && spoiled.length() > 0; i--) {
            int at = random.nextInt(spoiled.length());
            int kind = random.nextInt(5);
            if (kind == 0) {
                spoiled.setLength(at);
            } else if (kind == 1) {
                spoiled.deleteCharAt(at);
            } else if (kind == 2) {
                spoiled.insert(at, signs.charAt(random.nextInt(signs.length())));
            } else if (kind == 3) {
                spoiled.setCharAt(at, signs.charAt(random.nextInt(signs.length())));
            } else {
                int end = Math.min(spoiled.length(), at + random.nextInt(30));
                spoiled.insert(random.nextInt(spoiled.length()), spoiled.substring(at, end));
            }
        }
        return spoiled.toString();
    }

    private int dispute() {
        return party(model.count(4));
    }

    private int party(int count) {
        int kind = random.nextInt(40);
        if (kind == 0) {
            return new int[] {-1, count, Integer.MAX_VALUE, Integer.MIN_VALUE}[random.nextInt(4)];
        }
        // The later ones are more often open.
        return count == 0 ? 0 : kind < 20 ? random.nextInt(count) : count - 1 - random.nextInt(Math.min(count, 4));
    }

    private int amount() {
        int kind = random.nextInt(20);
        return kind == 0 ? random.nextInt(3) - 1 : kind == 1 ? 99998 + random.nextInt(4) : 1 + random.nextInt(2000);
    }
}
