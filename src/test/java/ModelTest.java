/** All promises: long runs of calls, whose answers have to be those of Model. */
public final class ModelTest {
    private static final int RUNS = 500;
    /** What an object answers after so many calls is free. */
    private static final int CALLS = 512;
    /**
     * Which calls a run makes, and how often: all of them; payments and debts; days; much money;
     * many holds.
     */
    private static final String[] PROFILES = {"lllqkxxxhhhpgdwcnsttu", "llhhhppppdddwwwxxxxxnu",
        "lhnnnnnnnnnnkqpd", "llllllllllllxxqu", "lllhhhhhhhhhhhhgptu"};
    private static final String[] PIECES = {"l0+", "l1+", "l0+9000", "x001:", "x002:50", "x010:",
        "x120:7", "h00:", "h11:2", "h02:", ";", ";", ";", "5", "0", "99", "l", "x", "h", "4", "+",
        ":", "~"};

    private final Check check;
    /** Always the same numbers: a test of the same class gives the same answers. */
    private long seed;
    private TravelPurses x;
    private Model model;
    /** Bolder runs have more wrong arguments; calmer ones go further. */
    private final int boldness;
    private final String profile;
    private final int longestPass;
    private int calls;
    /** Few wallets bring more money, holds and debts together. */
    private final int wallets;

    private ModelTest(Check check, int run) {
        this.check = check;
        seed = run;
        boldness = run % 3 * 6;
        profile = PROFILES[run % PROFILES.length];
        longestPass = run % PROFILES.length == 2 ? 40 : 4;
        wallets = run % 2 == 0 ? 4 : 1;
    }

    public static void main(String[] args) {
        Check check = new Check("ModelTest");
        for (int run = 1; run <= RUNS; run++) {
            new ModelTest(check, run).oneRun();
        }
        check.end();
    }

    private int below(int bound) {
        seed = seed * 6364136223846793005L + 1442695040888963407L;
        return (int) ((seed >>> 33) % bound);
    }

    private int index(int bound) {
        return below(100) < boldness ? below(bound + 4) - 2 : below(bound);
    }

    private int amount(int most) {
        int kind = below(100);
        if (kind < boldness) {
            int[] odd = {0, -1, most, most + 1, Integer.MAX_VALUE, Integer.MIN_VALUE};
            return odd[below(odd.length)];
        }
        int[] bounds = {10, 200, 3000, most, most};
        return 1 + below(bounds[kind % bounds.length]);
    }

    /** About as much as there is: so that many calls stand just at their bound. */
    private int amountNear(long bound) {
        return (int) Math.min(99999, Math.max(0, bound + below(3) - 1 - below(3) / 2));
    }

    private void oneRun() {
        x = new TravelPurses();
        model = new Model();
        for (int step = 0; calls < CALLS; step++) {
            if (step % 16 == 15) {
                same("digest()", () -> x.digest(), () -> model.digest());
            } else if (below(3) > 0) {
                change();
            } else {
                query();
            }
        }
    }

    private void same(String what, Check.Call got, Check.Call due) {
        if (calls >= CALLS) {
            return;
        }
        calls++;
        check.isText(what, outcome(got), outcome(due));
    }

    private static String outcome(Check.Call call) {
        try {
            return Long.toString(call.answer());
        } catch (RuntimeException thrown) {
            return thrown.getClass().getSimpleName();
        }
    }

    private void change() {
        switch (profile.charAt(below(profile.length()))) {
            case 'l' -> load();
            case 'q' -> quote();
            case 'k' -> lock();
            case 'x' -> exchange();
            case 'h' -> hold();
            case 'p' -> pay();
            case 'g' -> letGo();
            case 'd' -> dispute();
            case 'w' -> decide();
            case 'c' -> close();
            case 'n' -> pass();
            case 's' -> set();
            case 't' -> text();
            default -> same("undo", () -> x.undo(), () -> model.undo());
        }
    }

    private void quote() {
        int currency = 1 + index(3);
        int rate = below(10) < 2 ? 99 + below(2) * 1902 : 100 + below(1901);
        same("quote", () -> x.quote(currency, rate), () -> model.quote(currency, rate));
    }

    private void lock() {
        int wallet = index(wallets);
        int currency = 1 + index(3);
        same("lock", () -> x.lock(wallet, currency), () -> model.lock(wallet, currency));
    }

    private void letGo() {
        int hold = index((int) model.count(1) + 1);
        same("letGo", () -> x.letGo(hold), () -> model.letGo(hold));
    }

    private void dispute() {
        int payment = index((int) model.count(2) + 1);
        same("dispute", () -> x.dispute(payment), () -> model.dispute(payment));
    }

    private void decide() {
        int payment = index((int) model.count(2) + 1);
        boolean isWon = below(4) == 0;
        same("decide", () -> x.decide(payment, isWon), () -> model.decide(payment, isWon));
    }

    private void close() {
        int wallet = index(wallets);
        same("close", () -> x.close(wallet), () -> model.close(wallet));
    }

    private void pass() {
        int days = below(4) == 0 ? amount(60) : 1 + below(longestPass);
        same("pass", () -> x.pass(days), () -> model.pass(days));
    }

    private void set() {
        int setting = index(4);
        int value = amount(below(2) == 0 ? 60 : 20) - below(2);
        same("set", () -> x.set(setting, value), () -> model.set(setting, value));
    }

    private void load() {
        int wallet = index(wallets);
        int amount = amount(99999);
        same("load", () -> x.load(wallet, amount), () -> model.load(wallet, amount));
    }

    private void exchange() {
        int wallet = index(wallets);
        int from = index(4);
        int to = below(5) == 0 ? index(4) : from == 0 ? 1 + below(3) : 0;
        int amount = below(3) == 0 && wallet >= 0 && wallet < 4 && from >= 0 && from < 4
                ? amountNear(model.purse(wallet, from, 2)) : amount(99999);
        same("exchange", () -> x.exchange(wallet, from, to, amount),
                () -> model.exchange(wallet, from, to, amount));
    }

    private void hold() {
        int wallet = index(wallets);
        int currency = index(4);
        int amount = below(3) == 0 && wallet >= 0 && wallet < 4 && currency >= 0 && currency < 4
                ? amountNear(model.room(wallet, currency)) : amount(below(4) == 0 ? 99999 : 500);
        same("hold", () -> x.hold(wallet, currency, amount),
                () -> model.hold(wallet, currency, amount));
    }

    private void pay() {
        int hold = index((int) model.count(1) + 1);
        int amount = below(2) == 0 && hold >= 0 && hold < model.count(1)
                ? amountNear(model.held(hold, 3)) : amount(100);
        same("pay", () -> x.pay(hold, amount), () -> model.pay(hold, amount));
    }

    private void text() {
        switch (below(8)) {
            case 0 -> {
                int code = 31 + below(98);
                same("append", () -> x.append(code), () -> model.append(code));
            }
            case 1 -> {
                if (below(4) == 0) {
                    same("clearBuffer", () -> x.clearBuffer(), () -> model.clearBuffer());
                }
            }
            case 2, 3 -> run();
            default -> append(PIECES[below(PIECES.length)]);
        }
    }

    private void append(String text) {
        for (int i = 0; i < text.length(); i++) {
            int code = text.charAt(i);
            same("append", () -> x.append(code), () -> model.append(code));
        }
    }

    /** Sometimes on a row of one's own, since pieces seldom make a complete one. */
    private void run() {
        if (below(3) > 0) {
            same("clearBuffer", () -> x.clearBuffer(), () -> model.clearBuffer());
            append(row());
        }
        same("firstError", () -> x.firstError(), () -> model.firstError());
        same("run", () -> x.run(), () -> model.run());
    }

    private String row() {
        StringBuilder text = new StringBuilder();
        int orders = 1 + below(5);
        for (int i = 0; i < orders; i++) {
            text.append(i > 0 ? ";" : "");
            int amount = below(2) == 0 ? 1 + below(100) : 1 + below(99999);
            switch (below(3)) {
                case 0 -> text.append('l').append(below(4)).append('+');
                case 1 -> text.append('x').append(below(4)).append(below(3)).append(below(3))
                        .append(':');
                default -> text.append('h').append(below(4)).append(below(4)).append(':');
            }
            text.append(amount);
        }
        return text.toString();
    }

    private void query() {
        int wallet = index(wallets);
        int currency = index(4);
        int other = index(4);
        int amount = amount(99999);
        int small = amount(9999);
        int what = below(20) == 0 ? below(20) - 4 : below(9);
        switch (below(12)) {
            case 0, 1 -> same("purse", () -> x.purse(wallet, currency, what),
                    () -> model.purse(wallet, currency, what));
            case 2 -> {
                int hold = index((int) model.count(1) + 1);
                same("held", () -> x.held(hold, what), () -> model.held(hold, what));
            }
            case 3 -> {
                int payment = index((int) model.count(2) + 1);
                same("payment", () -> x.payment(payment, what),
                        () -> model.payment(payment, what));
            }
            case 4 -> same("count", () -> x.count(what + other), () -> model.count(what + other));
            case 5 -> same("setting", () -> x.setting(other), () -> model.setting(other));
            case 6 -> same("ifExchanged", () -> x.ifExchanged(wallet, currency, other, amount),
                    () -> model.ifExchanged(wallet, currency, other, amount));
            case 7 -> same("needed", () -> x.needed(wallet, currency, small),
                    () -> model.needed(wallet, currency, small));
            case 8 -> same("room", () -> x.room(wallet, currency),
                    () -> model.room(wallet, currency));
            case 9 -> same("whyNot", () -> x.whyNot(what % 4, wallet, currency, other, amount),
                    () -> model.whyNot(what % 4, wallet, currency, other, amount));
            case 10 -> same("ifClosed", () -> x.ifClosed(wallet), () -> model.ifClosed(wallet));
            default -> same("heldShare",
                    () -> Double.doubleToLongBits(x.heldShare(wallet, currency)),
                    () -> Double.doubleToLongBits(model.heldShare(wallet, currency)));
        }
    }
}
