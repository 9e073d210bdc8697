/** Objects on which the tests of sentences play. What is said of no wallet is of the wallet 0. */
final class Scenes {
    private static final int MOST_AMOUNT = 99999;

    private Scenes() {
    }

    /** Neither a spread nor room for a tip: what comes and goes are the amounts themselves. */
    static TravelPurses plain() {
        TravelPurses x = new TravelPurses();
        x.set(1, 0);
        x.set(2, 0);
        return x;
    }

    static TravelPurses withHome(int amount) {
        TravelPurses x = plain();
        load(x, 0, amount);
        return x;
    }

    static void load(TravelPurses x, int wallet, int amount) {
        int left = amount;
        while (left > 0) {
            int part = Math.min(left, MOST_AMOUNT);
            x.load(wallet, part);
            left -= part;
        }
    }

    /** Money of any currency, at the rates of a new object; of the currency 3 only what is even. */
    static TravelPurses with(int currency, int amount) {
        int[] cost = {1000, 1000, 1500, 500};
        int home = (int) ((amount * (long) cost[currency] + 999) / 1000);
        TravelPurses x = withHome(home);
        for (int left = currency == 0 ? 0 : home; left > 0; left -= MOST_AMOUNT) {
            x.exchange(0, 0, currency, Math.min(left, MOST_AMOUNT));
        }
        return x;
    }

    /** An empty purse with a debt: a payment's credit was spent ahead of the lost dispute. */
    static TravelPurses withDebt(int currency, int debt) {
        TravelPurses x = with(currency, debt);
        x.hold(0, currency, debt);
        x.pay(0, debt);
        x.dispute(0);
        x.exchange(0, currency, currency == 0 ? 1 : 0, debt);
        x.decide(0, false);
        return x;
    }

    /** As many holds of home money, of 11, 12, 13 ..; nothing is free beside them. */
    static TravelPurses withHolds(int holds) {
        TravelPurses x = plain();
        for (int i = 1; i <= holds; i++) {
            x.load(0, 10 + i);
            x.hold(0, 0, 10 + i);
        }
        return x;
    }

    /** As many plain payments of home money, of 11, 12, 13 .., and 1000 left. */
    static TravelPurses withPayments(int payments) {
        TravelPurses x = withHome(1000);
        for (int i = 1; i <= payments; i++) {
            x.load(0, 10 + i);
            x.hold(0, 0, 10 + i);
            x.pay(0, 10 + i);
        }
        return x;
    }

    static void pass(TravelPurses x, int days) {
        for (int left = days; left > 0; left -= 60) {
            x.pass(Math.min(left, 60));
        }
    }

    static TravelPurses onDay(int day) {
        TravelPurses x = new TravelPurses();
        pass(x, day);
        return x;
    }

    static TravelPurses withText(String text) {
        TravelPurses x = new TravelPurses();
        Check.type(x, text);
        return x;
    }

    /** As many saved states, of calls that changed nothing. */
    static TravelPurses save(TravelPurses x, int states) {
        for (int i = 0; i < states; i++) {
            x.set(0, x.setting(0));
        }
        return x;
    }
}
