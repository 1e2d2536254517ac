import java.util.ArrayList;
import java.util.List;
import java.util.regex.Matcher;
import java.util.regex.Pattern;

/**
 * The document once more, written in another way and without care for speed: objects in lists,
 * payments between named accounts, every set of evidence tried, days passed on a copy to predict,
 * and the state before each change kept whole for undo.
 */
final class Model {
    private StringBuilder buffer = new StringBuilder();
    private int offset = -1;
    private State now = new State();
    private final List<State> past = new ArrayList<>();

    static final class Reason {
        int code, filing, answer, review, threshold;
        final List<Integer> needs = new ArrayList<>();
    }

    static final class Purchase {
        int issuer, merchant, amount, day;
    }

    static final class Dispute {
        Purchase purchase;
        Reason reason;
        int amount, filed, evidence, state, deadline;
        boolean withMerchant;
    }

    interface Node {
        long value(long count, long needed, long amount, long days);
    }

    static final class State {
        int issuers = 1, merchants = 1, opening, arbitration, limit = 100, today;
        Node score = (count, needed, amount, days) -> count;
        List<Reason> reasons = new ArrayList<>();
        List<Purchase> purchases = new ArrayList<>();
        List<Dispute> disputes = new ArrayList<>();
        long[] accounts = new long[9];

        State copy() {
            State other = new State();
            other.issuers = issuers;
            other.merchants = merchants;
            other.opening = opening;
            other.arbitration = arbitration;
            other.limit = limit;
            other.today = today;
            other.score = score;
            other.reasons = reasons;
            other.purchases = new ArrayList<>(purchases);
            for (Dispute d : disputes) {
                Dispute e = new Dispute();
                e.purchase = d.purchase;
                e.reason = d.reason;
                e.amount = d.amount;
                e.filed = d.filed;
                e.evidence = d.evidence;
                e.state = d.state;
                e.deadline = d.deadline;
                e.withMerchant = d.withMerchant;
                other.disputes.add(e);
            }
            other.accounts = accounts.clone();
            return other;
        }

        void pay(int from, int to, long amount) {
            accounts[from] -= amount;
            accounts[to] += amount;
        }

        int issuerOf(Dispute d) {
            return d.purchase.issuer;
        }

        int merchantOf(Dispute d) {
            return 4 + d.purchase.merchant;
        }

        void give(Dispute d, boolean toMerchant) {
            if (d.withMerchant != toMerchant) {
                int from = toMerchant ? issuerOf(d) : merchantOf(d);
                int to = toMerchant ? merchantOf(d) : issuerOf(d);
                pay(from, to, d.amount);
                d.withMerchant = toMerchant;
            }
        }

        void end(Dispute d, boolean merchantWins, boolean decided) {
            give(d, merchantWins);
            if (merchantWins) {
                pay(issuerOf(d), merchantOf(d), opening);
            }
            if (decided) {
                pay(merchantWins ? issuerOf(d) : merchantOf(d), 8, arbitration);
            }
            d.state = merchantWins ? 5 : 4;
            d.deadline = -1;
        }

        int dayPasses() {
            today++;
            int ended = 0;
            for (Dispute d : disputes) {
                if (d.state < 4 && d.deadline < today) {
                    end(d, d.state == 1 || d.state == 3 && wins(d, d.evidence), d.state == 3);
                    ended++;
                }
            }
            return ended;
        }

        long score(Dispute d, int set) {
            int count = 0;
            int needed = 0;
            for (int type = 0; type < 8; type++) {
                if ((set & 1 << type) != 0) {
                    count++;
                    if (d.reason.needs.contains(type)) {
                        needed++;
                    }
                }
            }
            return score.value(count, needed, d.amount, d.filed - d.purchase.day);
        }

        boolean wins(Dispute d, int set) {
            for (int type : d.reason.needs) {
                if ((set & 1 << type) == 0) {
                    return false;
                }
            }
            return score(d, set) >= d.reason.threshold;
        }

        int disputed(Purchase p) {
            return disputes.stream().filter(d -> d.purchase == p && d.state != 5).mapToInt(d -> d.amount).sum();
        }
    }

    static final class TextError extends Exception {
        private static final long serialVersionUID = 1;
        final int code;
        final int at;

        TextError(int code, int at) {
            this.code = code;
            this.at = at;
        }
    }

    /** Reads with a list of words and places; an error leaves by an exception. */
    private static final class Reader {
        final List<String> words = new ArrayList<>();
        final List<Integer> places = new ArrayList<>();
        final List<String> once = new ArrayList<>();
        final State state = new State();
        int next;

        Reader(String text) {
            Matcher matcher = Pattern.compile("[0-9]+|[a-z]+|[^ ]", Pattern.DOTALL).matcher(text);
            while (matcher.find()) {
                words.add(matcher.group());
                places.add(matcher.start());
            }
            words.add("");
            places.add(text.length());
        }

        String word() {
            return words.get(next);
        }

        TextError error(int code) {
            return new TextError(code, places.get(next));
        }

        boolean isNumber() {
            return word().matches("[0-9]+");
        }

        int number(int low, int high, List<Integer> forbidden) throws TextError {
            if (!isNumber()) {
                throw error(-2);
            }
            java.math.BigInteger value = new java.math.BigInteger(word());
            boolean fits = value.bitLength() < 31 && value.intValue() >= low && value.intValue() <= high;
            if (!fits || forbidden.contains(value.intValue())) {
                throw error(-3);
            }
            next++;
            return value.intValue();
        }

        int number(int low, int high) throws TextError {
            return number(low, high, List.of());
        }

        void sign(String sign) throws TextError {
            if (!word().equals(sign)) {
                throw error(-2);
            }
            next++;
        }

        State read() throws TextError {
            while (!word().isEmpty()) {
                String first = word();
                if (!List.of("parties", "reason", "fees", "score", "limit").contains(first) || once.contains(first)) {
                    throw error(-2);
                }
                if (first.equals("reason")) {
                    if (state.reasons.size() == 8) {
                        throw error(-4);
                    }
                } else {
                    once.add(first);
                }
                next++;
                statement(first);
                sign(";");
            }
            return state;
        }

        void statement(String first) throws TextError {
            if (first.equals("parties")) {
                state.issuers = number(1, 4);
                state.merchants = number(1, 4);
            } else if (first.equals("fees")) {
                state.opening = number(0, 999);
                state.arbitration = number(0, 999);
            } else if (first.equals("limit")) {
                state.limit = number(0, 9999);
            } else if (first.equals("score")) {
                state.score = sum(0);
            } else {
                reason();
            }
        }

        void reason() throws TextError {
            Reason reason = new Reason();
            List<Integer> codes = new ArrayList<>();
            for (Reason other : state.reasons) {
                codes.add(other.code);
            }
            reason.code = number(0, 99, codes);
            reason.filing = number(0, 200);
            reason.answer = number(1, 60);
            reason.review = number(1, 60);
            reason.threshold = number(0, 9999);
            if (word().equals("needs")) {
                next++;
                do {
                    reason.needs.add(number(0, 7, reason.needs));
                } while (isNumber());
            }
            state.reasons.add(reason);
        }

        Node sum(int depth) throws TextError {
            Node left = term(depth);
            while (word().equals("+") || word().equals("-")) {
                String operation = words.get(next++);
                left = join(operation, left, term(depth));
            }
            return left;
        }

        Node term(int depth) throws TextError {
            Node left = factor(depth);
            while (word().equals("*") || word().equals("/")) {
                String operation = words.get(next++);
                left = join(operation, left, factor(depth));
            }
            return left;
        }

        Node factor(int depth) throws TextError {
            if (isNumber()) {
                int number = number(0, 9999);
                return (count, needed, amount, days) -> number;
            }
            if (word().equals("(")) {
                if (depth == 4) {
                    throw error(-5);
                }
                next++;
                Node inside = sum(depth + 1);
                sign(")");
                return inside;
            }
            String name = word();
            if (!List.of("count", "needed", "amount", "days").contains(name)) {
                throw error(-2);
            }
            next++;
            return (count, needed, amount, days) -> name.equals("count") ? count : name.equals("needed") ? needed : name.equals("amount") ? amount : days;
        }

        Node join(String operation, Node left, Node right) {
            return (count, needed, amount, days) -> {
                long a = left.value(count, needed, amount, days);
                long b = right.value(count, needed, amount, days);
                long value = operation.equals("+") ? a + b : operation.equals("-") ? a - b : operation.equals("*") ? a * b : b == 0 ? 0 : a / b;
                return value > 1000000 ? 1000000 : value < -1000000 ? -1000000 : value;
            };
        }
    }

    private void change() {
        past.add(now.copy());
        if (past.size() > 8) {
            past.remove(0);
        }
    }

    private static <T> T at(List<T> list, int index) {
        if (index < 0 || index >= list.size()) {
            throw new IndexOutOfBoundsException();
        }
        return list.get(index);
    }

    private static void index(int index, int count) {
        if (index < 0 || index >= count) {
            throw new IndexOutOfBoundsException();
        }
    }

    private static void argument(boolean good) {
        if (!good) {
            throw new IllegalArgumentException();
        }
    }

    private static void state(boolean good) {
        if (!good) {
            throw new IllegalStateException();
        }
    }

    int append(int... words) {
        if (buffer.length() + 20 > 900) {
            return -1;
        }
        for (int word : words) {
            for (byte b : java.nio.ByteBuffer.allocate(4).putInt(word).array()) {
                buffer.append((char) (b & 255));
            }
        }
        return buffer.length();
    }

    int load(int length) {
        argument(length >= 0 && length <= buffer.length());
        String text = buffer.substring(0, length);
        buffer = new StringBuilder();
        try {
            State fresh = new Reader(text).read();
            change();
            now = fresh;
            offset = -1;
            return now.reasons.size();
        } catch (TextError e) {
            offset = e.at;
            return e.code;
        }
    }

    int errorOffset() {
        return offset;
    }

    int count(int which) {
        return List.of(now.issuers, now.merchants, now.reasons.size(), now.purchases.size(), now.disputes.size(), now.today).get(which);
    }

    int reasonOf(int code) {
        for (Reason reason : now.reasons) {
            if (reason.code == code) {
                return now.reasons.indexOf(reason);
            }
        }
        return -1;
    }

    long issuerAccount(int issuer) {
        index(issuer, now.issuers);
        return now.accounts[issuer];
    }

    long merchantAccount(int merchant) {
        index(merchant, now.merchants);
        return now.accounts[4 + merchant];
    }

    long networkAccount() {
        return now.accounts[8];
    }

    int disputed(int purchase) {
        return now.disputed(at(now.purchases, purchase));
    }

    Dispute dispute(int dispute) {
        return at(now.disputes, dispute);
    }

    long score(int dispute) {
        Dispute d = dispute(dispute);
        return now.score(d, d.evidence);
    }

    boolean wouldWin(int dispute, int evidence) {
        Dispute d = dispute(dispute);
        argument(evidence >= 0 && evidence <= 255);
        return now.wins(d, evidence);
    }

    int bestEvidence(int dispute) {
        Dispute d = dispute(dispute);
        for (int types = 0; types <= 8; types++) {
            for (int set = 0; set <= 255; set++) {
                if (Integer.bitCount(set) == types && (set | d.evidence) == set && now.wins(d, set)) {
                    return set;
                }
            }
        }
        return -1;
    }

    int nextDeadline() {
        return now.disputes.stream().filter(d -> d.state < 4).mapToInt(d -> d.deadline).min().orElse(-1);
    }

    long rate(int merchant) {
        index(merchant, now.merchants);
        int first = now.today - 29;
        long bought = now.purchases.stream().filter(p -> p.merchant == merchant && p.day >= first).count();
        long filed = now.disputes.stream().filter(d -> d.purchase.merchant == merchant && d.filed >= first).count();
        return bought == 0 ? 0 : filed * 1000 / bought;
    }

    boolean isWatched(int merchant) {
        return rate(merchant) > now.limit;
    }

    int exposure(int merchant) {
        index(merchant, now.merchants);
        return now.disputes.stream().filter(d -> d.purchase.merchant == merchant && d.state < 4).mapToInt(d -> d.amount).sum();
    }

    long settled(int merchant) {
        index(merchant, now.merchants);
        State later = now.copy();
        while (later.disputes.stream().anyMatch(d -> d.state < 4)) {
            later.dayPasses();
        }
        return later.accounts[4 + merchant];
    }

    int purchase(int issuer, int merchant, int amount) {
        index(issuer, now.issuers);
        index(merchant, now.merchants);
        argument(amount >= 1 && amount <= 99999);
        state(now.purchases.size() < 24);
        change();
        Purchase p = new Purchase();
        p.issuer = issuer;
        p.merchant = merchant;
        p.amount = amount;
        p.day = now.today;
        now.purchases.add(p);
        now.pay(issuer, 4 + merchant, amount);
        return now.purchases.size() - 1;
    }

    int file(int purchase, int reason, int amount) {
        Purchase p = at(now.purchases, purchase);
        Reason r = at(now.reasons, reason);
        argument(amount >= 1 && amount <= 99999);
        argument(amount <= p.amount - now.disputed(p));
        state(now.today <= p.day + r.filing);
        state(now.disputes.size() < 20);
        change();
        Dispute d = new Dispute();
        d.purchase = p;
        d.reason = r;
        d.amount = amount;
        d.filed = now.today;
        d.deadline = now.today + r.answer;
        d.withMerchant = true;
        now.disputes.add(d);
        now.give(d, false);
        now.pay(now.merchantOf(d), 8, now.opening);
        return now.disputes.size() - 1;
    }

    long represent(int dispute, int evidence) {
        dispute(dispute);
        argument(evidence >= 1 && evidence <= 255);
        state(dispute(dispute).state == 0);
        change();
        Dispute d = dispute(dispute);
        d.evidence |= evidence;
        d.state = 1;
        d.deadline = now.today + d.reason.review;
        now.give(d, true);
        return now.score(d, d.evidence);
    }

    int escalate(int dispute) {
        state(dispute(dispute).state == 1);
        change();
        Dispute d = dispute(dispute);
        d.state = 2;
        d.deadline = now.today + d.reason.answer;
        now.give(d, false);
        return d.deadline;
    }

    int contest(int dispute, int evidence) {
        dispute(dispute);
        argument(evidence >= 0 && evidence <= 255);
        state(dispute(dispute).state == 2);
        change();
        Dispute d = dispute(dispute);
        d.evidence |= evidence;
        d.state = 3;
        d.deadline = now.today + 10;
        return d.deadline + 1;
    }

    int accept(int dispute) {
        state(dispute(dispute).state < 3);
        change();
        Dispute d = dispute(dispute);
        now.end(d, d.state == 1, false);
        return d.state;
    }

    int pass(int days) {
        argument(days >= 1 && days <= 100);
        state(now.today + days <= 9999);
        change();
        int ended = 0;
        for (int i = 0; i < days; i++) {
            ended += now.dayPasses();
        }
        return ended;
    }

    int undo() {
        if (past.isEmpty()) {
            return -1;
        }
        now = past.remove(past.size() - 1);
        return past.size();
    }

    long checksum() {
        List<Long> numbers = new ArrayList<>();
        numbers.add((long) now.today);
        for (int i = 0; i < now.issuers; i++) {
            numbers.add(now.accounts[i]);
        }
        for (int i = 0; i < now.merchants; i++) {
            numbers.add(now.accounts[4 + i]);
        }
        numbers.add(now.accounts[8]);
        for (Purchase p : now.purchases) {
            numbers.add((long) now.disputed(p));
        }
        for (Dispute d : now.disputes) {
            numbers.add((long) d.state);
            numbers.add((long) d.deadline);
            numbers.add((long) d.evidence);
        }
        long sum = 0;
        for (long number : numbers) {
            sum = 31 * sum + number;
        }
        return sum;
    }
}
