/** Promises 19, 22 and 24 to 29: purse, count, and what would be. */
public final class QueryTest {
    private static final Check CHECK = new Check("QueryTest");

    public static void main(String[] args) {
        purse();
        purseRefused();
        count();
        ifExchanged();
        ifExchangedRefused();
        neededIsLeast();
        neededAtLock();
        neededRefused();
        roomIsGreatest();
        roomRefused();
        whyNot();
        whyNotRefused();
        ifClosed();
        heldShare();
        CHECK.end();
    }

    private static void purse() {
        TravelPurses x = new TravelPurses();
        x.set(1, 0);
        x.load(0, 1000);
        x.exchange(0, 0, 3, 500);
        x.hold(0, 3, 100);
        x.hold(0, 3, 200);
        x.pay(0, 110);
        x.dispute(0);
        x.hold(0, 3, 100);
        x.pay(1, 90);
        x.lock(0, 3);
        x.quote(3, 900);
        int[] due = {910, 240, 670, 0, 500, 7, 110, 200};
        for (int what = 0; what < due.length; what++) {
            CHECK.is("purse(0, 3, " + what + ")", x.purse(0, 3, what), due[what]);
        }
        CHECK.is("free ahead", x.exchange(0, 3, 0, 670), 335);
        CHECK.is("lost", x.decide(0, false), 110);
        CHECK.is("debt", x.purse(0, 3, 3), 110);
        CHECK.is("no credit", x.purse(0, 3, 6), 0);
        CHECK.is("home money has its own rate", x.purse(0, 0, 4), 1000);
        CHECK.is("and no lock", x.purse(0, 0, 5), TravelPurses.NONE);
    }

    private static void purseRefused() {
        TravelPurses x = new TravelPurses();
        CHECK.fails("wallet 4", Check.NO_SUCH, x, () -> x.purse(4, 0, 8));
        CHECK.fails("wallet -1", Check.NO_SUCH, x, () -> x.purse(-1, 3, 0));
        CHECK.fails("currency 4", Check.NO_SUCH, x, () -> x.purse(0, 4, -1));
        CHECK.fails("currency -1", Check.NO_SUCH, x, () -> x.purse(1, -1, 0));
        CHECK.fails("what 8", Check.WRONG, x, () -> x.purse(0, 0, 8));
        CHECK.fails("what -1", Check.WRONG, x, () -> x.purse(0, 0, -1));
    }

    private static void count() {
        TravelPurses x = new TravelPurses();
        x.set(1, 50);
        x.load(0, 1000);
        x.load(1, 234);
        x.exchange(0, 0, 1, 500);
        x.exchange(1, 0, 2, 200);
        x.exchange(0, 1, 0, 100);
        x.hold(0, 0, 10);
        x.hold(0, 0, 10);
        x.hold(0, 0, 10);
        x.pay(0, 10);
        x.pay(0, 10);
        x.dispute(1);
        x.pass(2);
        x.quote(1, 101);
        x.quote(2, 102);
        x.quote(3, 103);
        int paidOut = x.close(1);
        CHECK.is("paid out", paidOut, 34 + 12);
        int[] due = {2, 1, 2, 1, 1234, 46, 4, 5, 25 + 6, 101, 102, 103, 0, 6};
        for (int what = 0; what < due.length; what++) {
            CHECK.is("count " + what, x.count(what), due[what]);
        }
        CHECK.fails("count 14", Check.WRONG, x, () -> x.count(14));
        CHECK.fails("count -1", Check.WRONG, x, () -> x.count(-1));
    }

    private static void ifExchanged() {
        TravelPurses x = new TravelPurses();
        CHECK.is("without money", x.ifExchanged(0, 0, 1, 1000), 990);
        CHECK.is("at 1500", x.ifExchanged(0, 0, 2, 99999), 66666 - 666);
        CHECK.is("to home", x.ifExchanged(0, 2, 0, 99999), 149998 - 1499);
        CHECK.is("same currencies", x.ifExchanged(0, 2, 2, 5), TravelPurses.NONE);
        CHECK.is("home to home", x.ifExchanged(0, 0, 0, 5), TravelPurses.NONE);
        CHECK.is("none of both is 0", x.ifExchanged(0, 3, 2, 5), TravelPurses.NONE);
        x.quote(1, 100);
        x.set(1, 100);
        CHECK.is("the most", x.ifExchanged(0, 0, 1, 99999), 899991);
        x.lock(3, 1);
        x.quote(1, 2000);
        CHECK.is("at a locked rate", x.ifExchanged(3, 1, 0, 100), 9);
        CHECK.is("at the market rate", x.ifExchanged(2, 1, 0, 100), 180);
    }

    private static void ifExchangedRefused() {
        TravelPurses x = new TravelPurses();
        CHECK.fails("wallet 4", Check.NO_SUCH, x, () -> x.ifExchanged(4, 0, 1, 0));
        CHECK.fails("wallet -1", Check.NO_SUCH, x, () -> x.ifExchanged(-1, 0, 1, 1));
        CHECK.fails("from 4", Check.NO_SUCH, x, () -> x.ifExchanged(0, 4, 1, 1));
        CHECK.fails("to -1", Check.NO_SUCH, x, () -> x.ifExchanged(0, 1, -1, 1));
        CHECK.fails("to 4", Check.NO_SUCH, x, () -> x.ifExchanged(0, 1, 4, 0));
        CHECK.fails("amount 0", Check.WRONG, x, () -> x.ifExchanged(0, 1, 1, 0));
        CHECK.fails("amount 100000", Check.WRONG, x, () -> x.ifExchanged(0, 0, 1, 100000));
    }

    private static void neededIsLeast() {
        int[] rates = {100, 101, 333, 500, 999, 1000, 1001, 1500, 1999, 2000};
        int[] spreads = {0, 1, 10, 37, 99, 100};
        for (int rate : rates) {
            for (int spread : spreads) {
                neededIsLeast(rate, spread);
            }
        }
    }

    private static void neededIsLeast(int rate, int spread) {
        TravelPurses x = new TravelPurses();
        x.quote(2, rate);
        x.set(1, spread);
        for (int amount = 1; amount <= 9999; amount += amount < 40 ? 1 : 332) {
            int least = x.needed(1, 2, amount);
            boolean isLeast = x.ifExchanged(1, 0, 2, least) >= amount
                    && (least == 1 || x.ifExchanged(1, 0, 2, least - 1) < amount);
            CHECK.is("least for " + amount + " at " + rate, isLeast ? 1 : 0, 1);
        }
    }

    private static void neededAtLock() {
        TravelPurses x = new TravelPurses();
        x.set(1, 0);
        x.lock(0, 3);
        x.quote(3, 2000);
        CHECK.is("at a locked rate", x.needed(0, 3, 100), 50);
        CHECK.is("at the market rate", x.needed(1, 3, 100), 200);
    }

    private static void neededRefused() {
        TravelPurses x = new TravelPurses();
        CHECK.fails("wallet 4", Check.NO_SUCH, x, () -> x.needed(4, 1, 0));
        CHECK.fails("wallet -1", Check.NO_SUCH, x, () -> x.needed(-1, 1, 1));
        CHECK.fails("currency 0", Check.NO_SUCH, x, () -> x.needed(0, 0, 1));
        CHECK.fails("currency 4", Check.NO_SUCH, x, () -> x.needed(0, 4, 10000));
        CHECK.fails("currency -1", Check.NO_SUCH, x, () -> x.needed(0, -1, 1));
        CHECK.fails("amount 0", Check.WRONG, x, () -> x.needed(0, 1, 0));
        CHECK.fails("amount 10000", Check.WRONG, x, () -> x.needed(0, 1, 10000));
    }

    private static void roomIsGreatest() {
        for (int tip = 0; tip <= 50; tip += 7) {
            TravelPurses x = new TravelPurses();
            x.set(2, tip);
            for (int i = 0; i < 40; i++) {
                int room = x.room(0, 0);
                CHECK.is("room is enough", room == 0 ? 0 : x.whyNot(1, 0, 0, 0, room), 0);
                CHECK.is("more is not", x.whyNot(1, 0, 0, 0, room + 1), 2);
                x.load(0, 1 + i * 13);
            }
        }
        TravelPurses y = new TravelPurses();
        y.load(0, 99999);
        y.load(0, 19998);
        CHECK.is("just below the bound", y.room(0, 0), 99998);
        y.load(0, 99999);
        CHECK.is("never above 99999", y.room(0, 0), 99999);
        for (int i = 0; i < 8; i++) {
            y.hold(0, 0, 10);
        }
        CHECK.is("the number of holds does not matter", y.room(0, 0), 99999);
        y.set(2, 0);
        y.letGo(0);
        y.hold(0, 0, 99999);
        y.letGo(7);
        CHECK.is("another purse", y.room(0, 1), 0);
    }

    private static void roomRefused() {
        TravelPurses x = new TravelPurses();
        CHECK.fails("wallet 4", Check.NO_SUCH, x, () -> x.room(4, 0));
        CHECK.fails("wallet -1", Check.NO_SUCH, x, () -> x.room(-1, 0));
        CHECK.fails("currency 4", Check.NO_SUCH, x, () -> x.room(0, 4));
        CHECK.fails("currency -1", Check.NO_SUCH, x, () -> x.room(3, -1));
    }

    private static void whyNot() {
        TravelPurses x = new TravelPurses();
        x.load(0, 120);
        CHECK.is("an exchange", x.whyNot(0, 0, 0, 1, 120), 0);
        CHECK.is("too little for it", x.whyNot(0, 0, 0, 1, 121), 2);
        CHECK.is("same currencies", x.whyNot(0, 0, 0, 0, 1), 1);
        CHECK.is("none of both is 0", x.whyNot(0, 0, 2, 1, 99999), 1);
        CHECK.is("the other way", x.whyNot(0, 0, 1, 0, 1), 2);
        CHECK.is("a hold", x.whyNot(1, 0, 0, 3, 100), 0);
        CHECK.is("too little with the room", x.whyNot(1, 0, 0, 3, 101), 2);
        CHECK.is("another wallet", x.whyNot(1, 1, 0, 3, 1), 2);
        CHECK.is("closing", x.whyNot(2, 0, 3, 3, 99999), 0);
        x.hold(0, 0, 10);
        CHECK.is("closing with a hold", x.whyNot(2, 0, 3, 3, 99999), 4);
        CHECK.is("closing of another one", x.whyNot(2, 1, 0, 0, 1), 0);
        CHECK.is("what is held is not free", x.whyNot(0, 0, 0, 1, 109), 2);
        CHECK.is("what is free", x.whyNot(0, 0, 0, 1, 108), 0);
    }

    private static void whyNotRefused() {
        TravelPurses x = new TravelPurses();
        for (int i = 0; i < 3; i++) {
            int what = i;
            CHECK.fails("wallet 4", Check.NO_SUCH, x, () -> x.whyNot(what, 4, 0, 0, 0));
            CHECK.fails("wallet -1", Check.NO_SUCH, x, () -> x.whyNot(what, -1, 0, 0, 1));
            CHECK.fails("currency 4", Check.NO_SUCH, x, () -> x.whyNot(what, 0, 4, 0, 1));
            CHECK.fails("currency -1", Check.NO_SUCH, x, () -> x.whyNot(what, 0, -1, 0, 1));
            CHECK.fails("other 4", Check.NO_SUCH, x, () -> x.whyNot(what, 0, 0, 4, 1));
            CHECK.fails("other -1", Check.NO_SUCH, x, () -> x.whyNot(what, 0, 0, -1, 1));
            CHECK.fails("amount 0", Check.WRONG, x, () -> x.whyNot(what, 0, 0, 1, 0));
            CHECK.fails("amount 100000", Check.WRONG, x, () -> x.whyNot(what, 0, 0, 1, 100000));
        }
        CHECK.fails("what 3", Check.WRONG, x, () -> x.whyNot(3, 0, 0, 1, 1));
        CHECK.fails("what -1", Check.WRONG, x, () -> x.whyNot(-1, 0, 0, 1, 1));
        CHECK.fails("no wallet, no what", Check.NO_SUCH, x, () -> x.whyNot(3, 4, 0, 1, 1));
    }

    private static void ifClosed() {
        TravelPurses x = new TravelPurses();
        CHECK.is("an empty wallet", x.ifClosed(3), 0);
        x.load(3, 1000);
        x.exchange(3, 0, 1, 100);
        x.exchange(3, 0, 2, 100);
        x.exchange(3, 0, 3, 100);
        CHECK.is("a wallet", x.ifClosed(3), 700 + 99 + 99 + 99);
        x.hold(3, 3, 10);
        CHECK.is("with a hold", x.ifClosed(3), TravelPurses.NONE);
        x.pay(0, 10);
        x.dispute(0);
        CHECK.is("with a dispute", x.ifClosed(3), TravelPurses.NONE);
        x.exchange(3, 3, 0, x.purse(3, 3, 0));
        x.decide(0, false);
        CHECK.is("with debt", x.ifClosed(3), TravelPurses.NONE);
        CHECK.is("another one", x.ifClosed(2), 0);
        CHECK.fails("wallet 4", Check.NO_SUCH, x, () -> x.ifClosed(4));
        CHECK.fails("wallet -1", Check.NO_SUCH, x, () -> x.ifClosed(-1));
    }

    private static void heldShare() {
        TravelPurses x = new TravelPurses();
        CHECK.isDouble("an empty purse", x.heldShare(0, 0), 0.0);
        x.load(0, 700);
        CHECK.isDouble("no holds", x.heldShare(0, 0), 0.0);
        x.hold(0, 0, 100);
        CHECK.isDouble("a hold", x.heldShare(0, 0), 120.0 / 700.0);
        x.set(2, 0);
        x.hold(0, 0, 580);
        CHECK.isDouble("all is held", x.heldShare(0, 0), 1.0);
        CHECK.isDouble("another purse", x.heldShare(0, 1), 0.0);
        CHECK.fails("wallet 4", Check.NO_SUCH, x, () -> (long) x.heldShare(4, 0));
        CHECK.fails("wallet -1", Check.NO_SUCH, x, () -> (long) x.heldShare(-1, 0));
        CHECK.fails("currency 4", Check.NO_SUCH, x, () -> (long) x.heldShare(0, 4));
        CHECK.fails("currency -1", Check.NO_SUCH, x, () -> (long) x.heldShare(0, -1));
    }
}
