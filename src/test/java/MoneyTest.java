/** Promises 1 to 5 and 11: a new object, load, quote, lock, exchange, close. */
public final class MoneyTest {
    private static final Check CHECK = new Check("MoneyTest");

    public static void main(String[] args) {
        newObject();
        load();
        loadPaysDebt();
        quote();
        lock();
        lockAfterClosing();
        exchangeFromHome();
        exchangeToHome();
        exchangePaysDebt();
        exchangeRefused();
        close();
        closeRefused();
        closeOfLeastMoney();
        closeWithMuchMoney();
        CHECK.end();
    }

    private static void newObject() {
        TravelPurses x = new TravelPurses();
        int[] rates = {1000, 1000, 1500, 500};
        for (int wallet = 0; wallet < 4; wallet++) {
            for (int currency = 0; currency < 4; currency++) {
                for (int what = 0; what < 8; what++) {
                    int due = what == 4 ? rates[currency] : what == 5 ? TravelPurses.NONE : 0;
                    CHECK.is("new purse " + what, x.purse(wallet, currency, what), due);
                }
            }
        }
        int[] counts = {0, 0, 0, 0, 0, 0, 0, 0, 0, 1000, 1500, 500, 0, 0};
        for (int what = 0; what < counts.length; what++) {
            CHECK.is("new count " + what, x.count(what), counts[what]);
        }
        int[] settings = {7, 10, 20, 5};
        for (int i = 0; i < settings.length; i++) {
            CHECK.is("new setting " + i, x.setting(i), settings[i]);
        }
        CHECK.is("new buffer", x.clearBuffer(), 0);
        CHECK.fails("undo of a new object", Check.REFUSED, x, () -> x.undo());
    }

    private static void load() {
        TravelPurses x = new TravelPurses();
        CHECK.is("load the least", x.load(3, 1), 1);
        CHECK.is("load the most", x.load(3, 99999), 100000);
        CHECK.is("its balance", x.purse(3, 0, 0), 100000);
        CHECK.is("another wallet", x.purse(2, 0, 0), 0);
        CHECK.is("loaded so far", x.count(4), 100000);
        CHECK.fails("load(4)", Check.NO_SUCH, x, () -> x.load(4, 0));
        CHECK.fails("load(-1)", Check.NO_SUCH, x, () -> x.load(-1, 1));
        CHECK.fails("load 0", Check.WRONG, x, () -> x.load(3, 0));
        CHECK.fails("load -5", Check.WRONG, x, () -> x.load(3, -5));
        CHECK.fails("load 100000", Check.WRONG, x, () -> x.load(3, 100000));
        CHECK.fails("load the least int", Check.WRONG, x, () -> x.load(3, Integer.MIN_VALUE));
        for (int i = 0; i < 9; i++) {
            x.load(3, 99999);
        }
        CHECK.is("balance near the bound", x.purse(3, 0, 0), 999991);
        CHECK.fails("load above the bound", Check.REFUSED, x, () -> x.load(3, 10));
        CHECK.fails("range ahead of bound", Check.WRONG, x, () -> x.load(3, 100000));
        CHECK.is("load to the bound", x.load(3, 9), 1000000);
        CHECK.fails("load at the bound", Check.REFUSED, x, () -> x.load(3, 1));
    }

    /** Debt of the wallet 0 in home money: a payment of 120, its credit spent, then lost. */
    private static TravelPurses withHomeDebt() {
        TravelPurses x = new TravelPurses();
        x.set(1, 0);
        x.load(0, 120);
        x.hold(0, 0, 100);
        x.pay(0, 120);
        x.dispute(0);
        x.exchange(0, 0, 1, 100);
        CHECK.is("debt by a lost dispute", x.decide(0, false), 100);
        return x;
    }

    private static void loadPaysDebt() {
        TravelPurses x = withHomeDebt();
        CHECK.is("load of less than the debt", x.load(0, 30), 0);
        CHECK.is("debt left", x.purse(0, 0, 3), 70);
        CHECK.is("debt paid so far", x.count(12), 30);
        CHECK.is("the whole load counts", x.count(4), 150);
        CHECK.is("load of more than the debt", x.load(0, 100), 30);
        CHECK.is("no debt left", x.purse(0, 0, 3), 0);
        CHECK.is("all debt paid", x.count(12), 100);
        TravelPurses y = withHomeDebt();
        for (int i = 0; i < 10; i++) {
            y.load(0, 99999);
        }
        CHECK.is("balance less the debt", y.purse(0, 0, 0), 999890);
        CHECK.is("load to the bound", y.load(0, 110), 1000000);
    }

    private static void quote() {
        TravelPurses x = new TravelPurses();
        CHECK.is("quote the least", x.quote(1, 100), 1000);
        CHECK.is("quote the most", x.quote(1, 2000), 100);
        CHECK.is("quote 2", x.quote(2, 7 + 100), 1500);
        CHECK.is("quote 3", x.quote(3, 777), 500);
        CHECK.is("market 1", x.count(9), 2000);
        CHECK.is("market 2", x.count(10), 107);
        CHECK.is("market 3", x.count(11), 777);
        CHECK.is("rate of a wallet", x.purse(2, 3, 4), 777);
        CHECK.fails("quote(0)", Check.NO_SUCH, x, () -> x.quote(0, 500));
        CHECK.fails("quote(4)", Check.NO_SUCH, x, () -> x.quote(4, 1));
        CHECK.fails("quote(-1)", Check.NO_SUCH, x, () -> x.quote(-1, 500));
        CHECK.fails("quote 99", Check.WRONG, x, () -> x.quote(1, 99));
        CHECK.fails("quote 2001", Check.WRONG, x, () -> x.quote(3, 2001));
    }

    private static void lock() {
        TravelPurses x = new TravelPurses();
        x.pass(3);
        CHECK.is("lock", x.lock(1, 2), 10);
        x.quote(2, 2000);
        CHECK.is("locked rate", x.purse(1, 2, 4), 1500);
        CHECK.is("rate of another wallet", x.purse(0, 2, 4), 2000);
        CHECK.is("rate of another currency", x.purse(1, 1, 4), 1000);
        x.set(0, 60);
        CHECK.is("a later setting does not matter", x.purse(1, 2, 5), 10);
        x.pass(7);
        CHECK.is("its last day", x.purse(1, 2, 4), 1500);
        CHECK.is("last day told", x.purse(1, 2, 5), 10);
        x.load(1, 3000);
        CHECK.is("exchange at the locked rate", x.exchange(1, 0, 2, 1500), 990);
        x.pass(1);
        CHECK.is("a day later", x.purse(1, 2, 4), 2000);
        CHECK.is("none counts", x.purse(1, 2, 5), TravelPurses.NONE);
        CHECK.is("exchange at the market rate", x.exchange(1, 0, 2, 1500), 743);
        CHECK.is("lock for 60 days", x.lock(1, 2), 71);
        x.quote(2, 100);
        x.set(0, 0);
        CHECK.is("a lock takes the other one's place", x.lock(1, 2), 11);
        CHECK.is("its rate", x.purse(1, 2, 4), 100);
        x.quote(2, 200);
        x.pass(1);
        CHECK.is("the other one is gone", x.purse(1, 2, 4), 200);
        CHECK.fails("lock(0, 0)", Check.NO_SUCH, x, () -> x.lock(0, 0));
        CHECK.fails("lock(0, 4)", Check.NO_SUCH, x, () -> x.lock(0, 4));
        CHECK.fails("lock(4, 1)", Check.NO_SUCH, x, () -> x.lock(4, 1));
        CHECK.fails("lock(-1, 1)", Check.NO_SUCH, x, () -> x.lock(-1, 1));
        CHECK.fails("lock(0, -1)", Check.NO_SUCH, x, () -> x.lock(0, -1));
    }

    private static void lockAfterClosing() {
        TravelPurses x = new TravelPurses();
        x.lock(0, 1);
        x.lock(0, 3);
        x.lock(1, 1);
        x.quote(1, 2000);
        x.quote(3, 100);
        x.load(0, 50);
        CHECK.is("close", x.close(0), 50);
        CHECK.is("lock 1 is gone", x.purse(0, 1, 5), TravelPurses.NONE);
        CHECK.is("rate 1", x.purse(0, 1, 4), 2000);
        CHECK.is("lock 3 is gone", x.purse(0, 3, 5), TravelPurses.NONE);
        CHECK.is("rate 3", x.purse(0, 3, 4), 100);
        CHECK.is("another wallet keeps its lock", x.purse(1, 1, 4), 1000);
    }

    private static void exchangeFromHome() {
        TravelPurses x = new TravelPurses();
        x.load(2, 50000);
        CHECK.is("at 500", x.exchange(2, 0, 3, 1001), 1982);
        CHECK.is("spread of 20.02 is 20", x.count(8), 20);
        CHECK.is("at 1500, rounded down", x.exchange(2, 0, 2, 1000), 660);
        CHECK.is("spread of 6.66 is 6", x.count(8), 26);
        CHECK.is("no home spread", x.count(7), 0);
        CHECK.is("too little for anything", x.exchange(2, 0, 2, 1), 0);
        CHECK.is("but it is an exchange", x.count(6), 3);
        CHECK.is("home left", x.purse(2, 0, 0), 47998);
        CHECK.is("purse 3", x.purse(2, 3, 0), 1982);
        CHECK.is("purse 2", x.purse(2, 2, 0), 660);
        x.quote(1, 100);
        CHECK.is("all of it at 100", x.exchange(2, 0, 1, 47998), 475181);
        CHECK.is("nothing left", x.purse(2, 0, 0), 0);
    }

    private static void exchangeToHome() {
        TravelPurses x = new TravelPurses();
        x.set(1, 0);
        x.load(1, 30000);
        x.exchange(1, 0, 2, 30000);
        x.set(1, 100);
        CHECK.is("a tenth is kept", x.exchange(1, 2, 0, 7), 9);
        CHECK.is("spread of 1.0", x.count(7), 1);
        CHECK.is("less than 10 brings all", x.exchange(1, 2, 0, 6), 9);
        CHECK.is("no spread", x.count(7), 1);
        CHECK.is("spread in other money", x.count(8), 0);
        CHECK.is("exchanges", x.count(6), 3);
        CHECK.is("other money left", x.purse(1, 2, 0), 19987);
        CHECK.is("home money", x.purse(1, 0, 0), 18);
    }

    private static void exchangePaysDebt() {
        TravelPurses x = withHomeDebt();
        CHECK.is("answers all that comes in", x.exchange(0, 1, 0, 40), 40);
        CHECK.is("but the debt takes it", x.purse(0, 0, 0), 0);
        CHECK.is("debt left", x.purse(0, 0, 3), 60);
        CHECK.is("paid so far", x.count(12), 40);
    }

    private static void exchangeRefused() {
        TravelPurses x = new TravelPurses();
        x.load(0, 100);
        CHECK.fails("wallet 4", Check.NO_SUCH, x, () -> x.exchange(4, 0, 1, 0));
        CHECK.fails("wallet -1", Check.NO_SUCH, x, () -> x.exchange(-1, 0, 1, 1));
        CHECK.fails("from 4", Check.NO_SUCH, x, () -> x.exchange(0, 4, 0, 1));
        CHECK.fails("from -1", Check.NO_SUCH, x, () -> x.exchange(0, -1, 0, 1));
        CHECK.fails("to 4", Check.NO_SUCH, x, () -> x.exchange(0, 0, 4, 0));
        CHECK.fails("to -1", Check.NO_SUCH, x, () -> x.exchange(0, 0, -1, 1));
        CHECK.fails("amount 0", Check.WRONG, x, () -> x.exchange(0, 1, 1, 0));
        CHECK.fails("amount 100000", Check.WRONG, x, () -> x.exchange(0, 0, 1, 100000));
        CHECK.fails("same currencies", Check.REFUSED, x, () -> x.exchange(0, 0, 0, 1));
        CHECK.fails("none of both is 0", Check.REFUSED, x, () -> x.exchange(0, 1, 2, 1));
        CHECK.fails("too little", Check.REFUSED, x, () -> x.exchange(0, 0, 1, 101));
        x.hold(0, 0, 50);
        CHECK.fails("held money", Check.REFUSED, x, () -> x.exchange(0, 0, 1, 41));
        CHECK.is("all that is free", x.exchange(0, 0, 1, 40), 40);
    }

    private static void close() {
        TravelPurses x = new TravelPurses();
        x.load(0, 10000);
        x.load(1, 500);
        x.exchange(0, 0, 1, 2000);
        x.exchange(0, 0, 3, 1000);
        x.lock(0, 3);
        x.quote(3, 1000);
        CHECK.is("before it", x.count(6), 2);
        CHECK.is("what closing would pay out", x.ifClosed(0), 7000 + 1961 + 981);
        CHECK.is("close", x.close(0), 7000 + 1961 + 981);
        for (int currency = 0; currency < 4; currency++) {
            CHECK.is("empty purse", x.purse(0, currency, 0), 0);
        }
        CHECK.is("one exchange for each balance", x.count(6), 4);
        CHECK.is("their spreads", x.count(7), 19 + 9);
        CHECK.is("paid out", x.count(5), 9942);
        CHECK.is("another wallet", x.purse(1, 0, 0), 500);
        CHECK.is("close again", x.close(0), 0);
        CHECK.is("no exchange", x.count(6), 4);
        CHECK.is("used again", x.load(0, 5), 5);
        CHECK.is("close another wallet", x.close(1), 500);
        CHECK.is("paid out so far", x.count(5), 10442);
        CHECK.fails("close(4)", Check.NO_SUCH, x, () -> x.close(4));
        CHECK.fails("close(-1)", Check.NO_SUCH, x, () -> x.close(-1));
    }

    private static void closeRefused() {
        TravelPurses x = withHomeDebt();
        CHECK.fails("close with debt", Check.REFUSED, x, () -> x.close(0));
        CHECK.is("reason 6", x.whyNot(2, 0, 0, 0, 1), 6);
        CHECK.is("another wallet closes", x.close(1), 0);
        x.load(0, 100);
        CHECK.is("debt is paid", x.whyNot(2, 0, 0, 0, 1), 0);
        x.hold(0, 1, 10);
        CHECK.fails("close with a hold", Check.REFUSED, x, () -> x.close(0));
        CHECK.is("reason 4", x.whyNot(2, 0, 0, 0, 1), 4);
        x.pay(0, 12);
        x.dispute(1);
        CHECK.fails("close with a dispute", Check.REFUSED, x, () -> x.close(0));
        CHECK.is("reason 5", x.whyNot(2, 0, 0, 0, 1), 5);
        x.hold(0, 1, 10);
        CHECK.is("4 is told ahead of 5", x.whyNot(2, 0, 0, 0, 1), 4);
        x.letGo(0);
        x.decide(1, true);
        CHECK.is("nothing against it", x.whyNot(2, 0, 0, 0, 1), 0);
        CHECK.is("close", x.close(0), 100);
    }

    private static void closeOfLeastMoney() {
        TravelPurses x = new TravelPurses();
        x.load(0, 3);
        x.exchange(0, 0, 2, 2);
        CHECK.is("one of the currency 2", x.purse(0, 2, 0), 1);
        CHECK.is("close", x.close(0), 2);
        CHECK.is("a balance of 1 is exchanged", x.count(6), 2);
        CHECK.is("it is gone", x.purse(0, 2, 0), 0);
        x.set(2, 0);
        x.load(0, 1);
        x.hold(0, 0, 1);
        x.pay(0, 1);
        x.dispute(0);
        x.exchange(0, 0, 1, 1);
        x.decide(0, false);
        CHECK.is("a debt of 1", x.purse(0, 0, 3), 1);
        CHECK.fails("close with it", Check.REFUSED, x, () -> x.close(0));
        CHECK.is("its reason", x.whyNot(2, 0, 0, 0, 1), 6);
    }

    /** More than 99999 in a purse: what it gives, times the spread, is above the ints. */
    private static void closeWithMuchMoney() {
        TravelPurses x = new TravelPurses();
        x.quote(1, 100);
        x.set(1, 0);
        for (int i = 0; i < 30; i++) {
            x.load(0, 99999);
            x.exchange(0, 0, 1, 99999);
        }
        CHECK.is("much other money", x.purse(0, 1, 0), 29999700);
        x.quote(1, 2000);
        x.set(1, 100);
        CHECK.is("what closing would pay out", x.ifClosed(0), 53999460);
        CHECK.is("close", x.close(0), 53999460);
        CHECK.is("its spread", x.count(7), 5999940);
    }
}
