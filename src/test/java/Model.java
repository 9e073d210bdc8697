import java.util.ArrayDeque;
import java.util.ArrayList;
import java.util.List;
import java.util.regex.Matcher;
import java.util.regex.Pattern;

/**
 * A second reading of the document, written in other ways wherever there are some: formulas where
 * the class searches, regular expressions where it reads signs, copies where it writes over.
 */
final class Model {
    private static final Pattern ROW = Pattern.compile(
            "(l[0-3]\\+|x[0-3]{3}:|h[0-3]{2}:)[1-9][0-9]{0,4}"
            + "(;(l[0-3]\\+|x[0-3]{3}:|h[0-3]{2}:)[1-9][0-9]{0,4})*");
    private static final int[] MOST = {60, 100, 50, 60};

    private record HoldRow(int wallet, int currency, int amount, int keeps, int day) { }

    private record PaymentRow(int wallet, int currency, int amount, int day, int status) {
        PaymentRow as(int newStatus) {
            return new PaymentRow(wallet, currency, amount, day, newStatus);
        }
    }

    private static final class World {
        long day;
        final long[] market = {1000, 1000, 1500, 500};
        final int[] settings = {7, 10, 20, 5};
        final long[][] balance = new long[4][4];
        final long[][] debt = new long[4][4];
        final long[][] lockRate = new long[4][4];
        final long[][] lockFirst = new long[4][4];
        final long[][] lockDays = new long[4][4];
        final List<HoldRow> holds = new ArrayList<>();
        final List<PaymentRow> payments = new ArrayList<>();
        final long[] counted = new long[14];

        World copy() {
            World copy = new World();
            copy.day = day;
            System.arraycopy(market, 0, copy.market, 0, 4);
            System.arraycopy(settings, 0, copy.settings, 0, 4);
            for (int i = 0; i < 4; i++) {
                System.arraycopy(balance[i], 0, copy.balance[i], 0, 4);
                System.arraycopy(debt[i], 0, copy.debt[i], 0, 4);
                System.arraycopy(lockRate[i], 0, copy.lockRate[i], 0, 4);
                System.arraycopy(lockFirst[i], 0, copy.lockFirst[i], 0, 4);
                System.arraycopy(lockDays[i], 0, copy.lockDays[i], 0, 4);
            }
            copy.holds.addAll(holds);
            copy.payments.addAll(payments);
            System.arraycopy(counted, 0, copy.counted, 0, 14);
            return copy;
        }
    }

    private World w = new World();
    private final ArrayDeque<World> saved = new ArrayDeque<>();
    private String buffer = "";

    private static void there(boolean isThere) {
        if (!isThere) {
            throw new IndexOutOfBoundsException();
        }
    }

    private static void right(boolean isRight) {
        if (!isRight) {
            throw new IllegalArgumentException();
        }
    }

    private static void possible(boolean isPossible) {
        if (!isPossible) {
            throw new IllegalStateException();
        }
    }

    private static boolean in(int value, int least, int most) {
        return least <= value && value <= most;
    }

    private void save() {
        saved.addLast(w.copy());
        if (saved.size() > 6) {
            saved.removeFirst();
        }
    }

    private void comesIn(int wallet, int currency, long money) {
        w.balance[wallet][currency] += money;
        while (w.debt[wallet][currency] > 0 && money > 0) {
            long paid = w.debt[wallet][currency] < money ? w.debt[wallet][currency] : money;
            w.debt[wallet][currency] -= paid;
            w.balance[wallet][currency] -= paid;
            w.counted[12] += paid;
            money = 0;
        }
    }

    private long kept(int wallet, int currency) {
        return w.holds.stream().filter(h -> h.wallet == wallet && h.currency == currency)
                .mapToLong(HoldRow::keeps).sum();
    }

    private long free(int wallet, int currency) {
        return w.balance[wallet][currency] - kept(wallet, currency);
    }

    private boolean locked(int wallet, int currency) {
        return w.lockRate[wallet][currency] > 0
                && w.day - w.lockFirst[wallet][currency] <= w.lockDays[wallet][currency];
    }

    private long rate(int wallet, int currency) {
        return locked(wallet, currency) ? w.lockRate[wallet][currency] : w.market[currency];
    }

    private long gross(int wallet, int from, int to, long amount) {
        return from == 0 ? amount * 1000 / rate(wallet, to) : amount * rate(wallet, from) / 1000;
    }

    private long spread(long gross) {
        return gross * w.settings[1] / 1000;
    }

    private long keeps(long amount) {
        return amount + amount * w.settings[2] / 100;
    }

    long load(int wallet, int amount) {
        there(in(wallet, 0, 3));
        right(in(amount, 1, 99999));
        possible(w.balance[wallet][0] + amount <= 1000000);
        save();
        w.counted[4] += amount;
        comesIn(wallet, 0, amount);
        return w.balance[wallet][0];
    }

    long quote(int currency, int rate) {
        there(in(currency, 1, 3));
        right(in(rate, 100, 2000));
        save();
        long previous = w.market[currency];
        w.market[currency] = rate;
        return previous;
    }

    long lock(int wallet, int currency) {
        there(in(wallet, 0, 3) && in(currency, 1, 3));
        save();
        w.lockRate[wallet][currency] = w.market[currency];
        w.lockFirst[wallet][currency] = w.day;
        w.lockDays[wallet][currency] = w.settings[0];
        return w.day + w.settings[0];
    }

    long exchange(int wallet, int from, int to, int amount) {
        possible(whyNot(0, wallet, from, to, amount) == 0);
        save();
        return moves(wallet, from, to, amount);
    }

    private long moves(int wallet, int from, int to, long amount) {
        long gross = gross(wallet, from, to, amount);
        w.counted[6]++;
        w.counted[to == 0 ? 7 : 8] += spread(gross);
        w.balance[wallet][from] -= amount;
        comesIn(wallet, to, gross - spread(gross));
        return gross - spread(gross);
    }

    long hold(int wallet, int currency, int amount) {
        possible(whyNot(1, wallet, currency, 0, amount) == 0);
        save();
        w.holds.add(new HoldRow(wallet, currency, amount, (int) keeps(amount), (int) w.day));
        return w.holds.size() - 1;
    }

    long pay(int hold, int amount) {
        there(in(hold, 0, w.holds.size() - 1));
        right(amount >= 1);
        possible(amount <= w.holds.get(hold).keeps && w.payments.size() < 12);
        save();
        HoldRow row = w.holds.remove(hold);
        w.balance[row.wallet][row.currency] -= amount;
        w.payments.add(new PaymentRow(row.wallet, row.currency, amount, (int) w.day, 0));
        return w.payments.size() - 1;
    }

    long letGo(int hold) {
        there(in(hold, 0, w.holds.size() - 1));
        save();
        return w.holds.remove(hold).keeps;
    }

    long dispute(int payment) {
        possible(payment(payment, 5) == 1);
        save();
        PaymentRow row = w.payments.get(payment);
        w.payments.set(payment, row.as(1));
        comesIn(row.wallet, row.currency, row.amount);
        return w.balance[row.wallet][row.currency];
    }

    long decide(int payment, boolean isWon) {
        possible(payment(payment, 4) == 1);
        save();
        PaymentRow row = w.payments.get(payment);
        w.payments.set(payment, row.as(isWon ? 2 : 3));
        if (isWon) {
            return 0;
        }
        long missing = row.amount - free(row.wallet, row.currency);
        if (missing < 0) {
            missing = 0;
        }
        w.balance[row.wallet][row.currency] -= row.amount - missing;
        w.debt[row.wallet][row.currency] += missing;
        return missing;
    }

    long close(int wallet) {
        possible(whyNot(2, wallet, 0, 0, 1) == 0);
        save();
        for (int currency = 1; currency <= 3; currency++) {
            if (w.balance[wallet][currency] > 0) {
                moves(wallet, currency, 0, w.balance[wallet][currency]);
            }
        }
        for (int currency = 1; currency <= 3; currency++) {
            w.lockRate[wallet][currency] = 0;
        }
        long out = w.balance[wallet][0];
        w.balance[wallet][0] = 0;
        w.counted[5] += out;
        return out;
    }

    long pass(int days) {
        right(in(days, 1, 60));
        possible(w.day + days <= 5000);
        save();
        int before = w.holds.size();
        for (int i = 0; i < days; i++) {
            w.day++;
            w.holds.removeIf(h -> h.day < w.day - w.settings[3]);
        }
        return before - w.holds.size();
    }

    long set(int setting, int value) {
        there(in(setting, 0, 3));
        right(in(value, 0, MOST[setting]));
        save();
        int previous = w.settings[setting];
        w.settings[setting] = value;
        return previous;
    }

    long append(int code) {
        right(in(code, 33, 126));
        possible(buffer.length() < 60);
        buffer += (char) code;
        return buffer.length();
    }

    long clearBuffer() {
        int length = buffer.length();
        buffer = "";
        return length;
    }

    long firstError() {
        for (int end = 1; end <= buffer.length(); end++) {
            Matcher matcher = ROW.matcher(buffer.substring(0, end));
            if (!matcher.matches() && !matcher.hitEnd()) {
                return end - 1;
            }
        }
        return buffer.length();
    }

    long run() {
        right(ROW.matcher(buffer).matches());
        save();
        String[] orders = buffer.split(";");
        buffer = "";
        int done = 0;
        for (String order : orders) {
            if (!carriedOut(order)) {
                break;
            }
            done++;
        }
        return done;
    }

    /** The states that the calls save are dropped again, and the one that fell out put back. */
    private boolean carriedOut(String order) {
        ArrayDeque<World> before = saved.clone();
        int wallet = order.charAt(1) - '0';
        int amount = Integer.parseInt(order.substring(order.charAt(0) == 'l' ? 3
                : order.indexOf(':') + 1));
        try {
            switch (order.charAt(0)) {
                case 'l' -> load(wallet, amount);
                case 'x' -> exchange(wallet, order.charAt(2) - '0', order.charAt(3) - '0', amount);
                default -> hold(wallet, order.charAt(2) - '0', amount);
            }
            return true;
        } catch (IllegalStateException refused) {
            return false;
        } finally {
            saved.clear();
            saved.addAll(before);
        }
    }

    long undo() {
        possible(!saved.isEmpty());
        w = saved.removeLast();
        return saved.size();
    }

    long purse(int wallet, int currency, int what) {
        there(in(wallet, 0, 3) && in(currency, 0, 3));
        right(in(what, 0, 7));
        return switch (what) {
            case 0 -> w.balance[wallet][currency];
            case 1 -> kept(wallet, currency);
            case 2 -> free(wallet, currency);
            case 3 -> w.debt[wallet][currency];
            case 4 -> rate(wallet, currency);
            case 5 -> locked(wallet, currency)
                    ? w.lockFirst[wallet][currency] + w.lockDays[wallet][currency] : -1;
            case 6 -> w.payments.stream().filter(p -> p.status == 1 && p.wallet == wallet
                    && p.currency == currency).mapToLong(PaymentRow::amount).sum();
            default -> w.payments.stream().filter(p -> p.wallet == wallet
                    && p.currency == currency).mapToLong(PaymentRow::amount).sum();
        };
    }

    long held(int hold, int what) {
        there(in(hold, 0, w.holds.size() - 1));
        right(in(what, 0, 4));
        HoldRow row = w.holds.get(hold);
        return new int[] {row.wallet, row.currency, row.amount, row.keeps, row.day}[what];
    }

    long payment(int payment, int what) {
        there(in(payment, 0, w.payments.size() - 1));
        right(in(what, 0, 5));
        PaymentRow row = w.payments.get(payment);
        int may = row.status == 0 && w.day <= row.day + 30 ? 1 : 0;
        return new int[] {row.wallet, row.currency, row.amount, row.day, row.status, may}[what];
    }

    long count(int what) {
        right(in(what, 0, 13));
        return switch (what) {
            case 0 -> w.day;
            case 1 -> w.holds.size();
            case 2 -> w.payments.size();
            case 3 -> w.payments.stream().filter(p -> p.status == 1).count();
            case 9 -> w.market[1];
            case 10 -> w.market[2];
            case 11 -> w.market[3];
            case 13 -> saved.size();
            default -> w.counted[what];
        };
    }

    long setting(int setting) {
        there(in(setting, 0, 3));
        return w.settings[setting];
    }

    long ifExchanged(int wallet, int from, int to, int amount) {
        if (whyNot(0, wallet, from, to, amount) == 1) {
            return -1;
        }
        long gross = gross(wallet, from, to, amount);
        return gross - spread(gross);
    }

    /** Of gross, the part gross * (1000 - spread) / 1000 is left, rounded up. */
    long needed(int wallet, int currency, int amount) {
        there(in(wallet, 0, 3) && in(currency, 1, 3));
        right(in(amount, 1, 9999));
        long gross = 1000L * (amount - 1) / (1000 - w.settings[1]) + 1;
        return (gross * rate(wallet, currency) + 999) / 1000;
    }

    /** What a hold keeps is amount * (100 + tip) / 100, which has to be below what is free + 1. */
    long room(int wallet, int currency) {
        there(in(wallet, 0, 3) && in(currency, 0, 3));
        long whole = 100 + w.settings[2];
        long room = (100 * (free(wallet, currency) + 1) + whole - 1) / whole - 1;
        return room < 99999 ? room : 99999;
    }

    long whyNot(int what, int wallet, int currency, int other, int amount) {
        there(in(wallet, 0, 3) && in(currency, 0, 3) && in(other, 0, 3));
        right(in(what, 0, 2) && in(amount, 1, 99999));
        if (what == 0) {
            boolean isPair = (currency == 0) != (other == 0);
            return !isPair ? 1 : free(wallet, currency) < amount ? 2 : 0;
        }
        if (what == 1) {
            return free(wallet, currency) < keeps(amount) ? 2 : w.holds.size() == 8 ? 3 : 0;
        }
        boolean hasDebt = false;
        for (long debt : w.debt[wallet]) {
            hasDebt |= debt > 0;
        }
        return w.holds.stream().anyMatch(h -> h.wallet == wallet) ? 4
                : w.payments.stream().anyMatch(p -> p.status == 1 && p.wallet == wallet) ? 5
                : hasDebt ? 6 : 0;
    }

    /** Closes a copy. */
    long ifClosed(int wallet) {
        if (whyNot(2, wallet, 0, 0, 1) != 0) {
            return -1;
        }
        World before = w;
        ArrayDeque<World> savedBefore = saved.clone();
        w = w.copy();
        long answer = close(wallet);
        w = before;
        saved.clear();
        saved.addAll(savedBefore);
        return answer;
    }

    double heldShare(int wallet, int currency) {
        there(in(wallet, 0, 3) && in(currency, 0, 3));
        double kept = kept(wallet, currency);
        return w.balance[wallet][currency] == 0 ? 0.0 : kept / w.balance[wallet][currency];
    }

    long digest() {
        List<Long> values = new ArrayList<>();
        for (int i = 0; i < 14; i++) {
            values.add(count(i));
        }
        for (int i = 0; i < 4; i++) {
            values.add(setting(i));
        }
        for (int wallet = 0; wallet < 4; wallet++) {
            addWallet(values, wallet);
        }
        for (int i = 0; i < w.holds.size(); i++) {
            for (int what = 0; what < 5; what++) {
                values.add(held(i, what));
            }
        }
        for (int i = 0; i < w.payments.size(); i++) {
            for (int what = 0; what < 6; what++) {
                values.add(payment(i, what));
            }
        }
        values.add((long) buffer.length());
        buffer.chars().forEach(code -> values.add((long) code));
        long hash = 2551;
        for (long value : values) {
            hash = 31 * hash + value;
        }
        return hash;
    }

    private void addWallet(List<Long> values, int wallet) {
        for (int currency = 0; currency < 4; currency++) {
            for (int what = 0; what < 8; what++) {
                values.add(purse(wallet, currency, what));
            }
            values.add(room(wallet, currency));
            values.add(Double.doubleToLongBits(heldShare(wallet, currency)));
        }
        values.add(ifExchanged(wallet, 0, 1, 1000));
        values.add(ifExchanged(wallet, 2, 0, 1000));
        values.add(needed(wallet, 3, 500));
        values.add(whyNot(2, wallet, 0, 0, 1));
        values.add(ifClosed(wallet));
    }
}
