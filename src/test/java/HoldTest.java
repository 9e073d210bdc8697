/** Promises 6 to 8, 12 and 20: hold, pay, letGo, pass, held. */
public final class HoldTest {
    private static final Check CHECK = new Check("HoldTest");

    public static void main(String[] args) {
        hold();
        holdRefused();
        numbersMoveUp();
        pay();
        payRefused();
        letGo();
        passDropsOldHolds();
        passDropsSomeHolds();
        passRefused();
        heldRefused();
        CHECK.end();
    }

    private static void hold() {
        TravelPurses x = new TravelPurses();
        x.load(1, 1000);
        x.pass(2);
        CHECK.is("hold", x.hold(1, 0, 104), 0);
        CHECK.is("wallet", x.held(0, 0), 1);
        CHECK.is("currency", x.held(0, 1), 0);
        CHECK.is("amount", x.held(0, 2), 104);
        CHECK.is("keeps with room for a tip, rounded down", x.held(0, 3), 124);
        CHECK.is("day", x.held(0, 4), 2);
        CHECK.is("balance", x.purse(1, 0, 0), 1000);
        CHECK.is("kept", x.purse(1, 0, 1), 124);
        CHECK.is("free", x.purse(1, 0, 2), 876);
        CHECK.is("kept of another purse", x.purse(1, 1, 1), 0);
        CHECK.is("kept of another wallet", x.purse(0, 0, 1), 0);
        x.set(2, 0);
        CHECK.is("a later setting does not matter", x.held(0, 3), 124);
        CHECK.is("hold of all that is free", x.hold(1, 0, 876), 1);
        CHECK.is("nothing free", x.purse(1, 0, 2), 0);
        CHECK.is("open holds", x.count(1), 2);
        TravelPurses y = new TravelPurses();
        y.load(0, 99999);
        y.load(0, 99999);
        y.set(2, 50);
        CHECK.is("the greatest hold", y.hold(0, 0, 99999), 0);
        CHECK.is("it keeps", y.held(0, 3), 149998);
    }

    private static void holdRefused() {
        TravelPurses x = new TravelPurses();
        x.load(0, 120);
        CHECK.fails("wallet 4", Check.NO_SUCH, x, () -> x.hold(4, 0, 0));
        CHECK.fails("wallet -1", Check.NO_SUCH, x, () -> x.hold(-1, 0, 1));
        CHECK.fails("currency 4", Check.NO_SUCH, x, () -> x.hold(0, 4, 1));
        CHECK.fails("currency -1", Check.NO_SUCH, x, () -> x.hold(0, -1, 1));
        CHECK.fails("amount 0", Check.WRONG, x, () -> x.hold(0, 1, 0));
        CHECK.fails("amount 100000", Check.WRONG, x, () -> x.hold(0, 0, 100000));
        CHECK.fails("too little with the room", Check.REFUSED, x, () -> x.hold(0, 0, 101));
        for (int i = 0; i < 8; i++) {
            CHECK.is("hold", x.hold(0, 0, 4), i);
        }
        CHECK.fails("a ninth hold", Check.REFUSED, x, () -> x.hold(0, 0, 4));
        CHECK.fails("a ninth hold of another wallet", Check.REFUSED, x, () -> x.hold(1, 0, 4));
        CHECK.is("3 for holds", x.whyNot(1, 0, 0, 0, 4), 3);
        CHECK.is("2 is told ahead of 3", x.whyNot(1, 1, 0, 0, 4), 2);
    }

    private static void numbersMoveUp() {
        TravelPurses x = new TravelPurses();
        x.load(0, 1000);
        for (int i = 0; i < 8; i++) {
            x.hold(0, 0, 10 + i);
        }
        CHECK.is("let the third one go", x.letGo(2), 14);
        int[] left = {10, 11, 13, 14, 15, 16, 17};
        for (int i = 0; i < left.length; i++) {
            CHECK.is("amount of " + i, x.held(i, 2), left[i]);
        }
        x.pay(0, 1);
        CHECK.is("the first one is gone", x.held(0, 2), 11);
        CHECK.is("the last one", x.held(5, 2), 17);
        CHECK.is("a new one is last", x.hold(0, 0, 50), 6);
        CHECK.is("its amount", x.held(6, 2), 50);
        CHECK.is("let the last one go", x.letGo(6), 60);
        CHECK.is("open holds", x.count(1), 6);
    }

    private static void pay() {
        TravelPurses x = new TravelPurses();
        x.load(2, 1000);
        x.hold(2, 0, 100);
        x.hold(2, 0, 200);
        x.pass(1);
        CHECK.is("pay with the tip", x.pay(1, 240), 0);
        CHECK.is("balance", x.purse(2, 0, 0), 760);
        CHECK.is("the hold is gone", x.count(1), 1);
        CHECK.is("free", x.purse(2, 0, 2), 640);
        CHECK.is("wallet", x.payment(0, 0), 2);
        CHECK.is("currency", x.payment(0, 1), 0);
        CHECK.is("amount", x.payment(0, 2), 240);
        CHECK.is("day", x.payment(0, 3), 1);
        CHECK.is("plain", x.payment(0, 4), 0);
        CHECK.is("pay the least", x.pay(0, 1), 1);
        CHECK.is("payments", x.count(2), 2);
        CHECK.is("paid out of the purse", x.purse(2, 0, 7), 241);
        CHECK.is("paid out of another one", x.purse(2, 1, 7), 0);
        CHECK.is("paid out of another wallet", x.purse(1, 0, 7), 0);
    }

    private static void payRefused() {
        TravelPurses x = new TravelPurses();
        x.load(0, 10000);
        CHECK.fails("no hold", Check.NO_SUCH, x, () -> x.pay(0, 0));
        x.hold(0, 0, 10);
        CHECK.fails("hold 1", Check.NO_SUCH, x, () -> x.pay(1, 1));
        CHECK.fails("hold -1", Check.NO_SUCH, x, () -> x.pay(-1, 1));
        CHECK.fails("amount 0", Check.WRONG, x, () -> x.pay(0, 0));
        CHECK.fails("amount -1", Check.WRONG, x, () -> x.pay(0, -1));
        CHECK.fails("more than it keeps", Check.REFUSED, x, () -> x.pay(0, 13));
        CHECK.fails("the greatest int", Check.REFUSED, x, () -> x.pay(0, Integer.MAX_VALUE));
        CHECK.is("all it keeps", x.pay(0, 12), 0);
        for (int i = 1; i < 12; i++) {
            x.hold(0, 0, 10);
            CHECK.is("payment", x.pay(0, 5), i);
        }
        x.hold(0, 0, 10);
        CHECK.fails("a thirteenth payment", Check.REFUSED, x, () -> x.pay(0, 5));
        CHECK.fails("wrong amount ahead of it", Check.WRONG, x, () -> x.pay(0, 0));
        CHECK.is("twelve payments", x.count(2), 12);
        CHECK.is("the last one", x.payment(11, 2), 5);
        CHECK.is("their sum", x.purse(0, 0, 7), 67);
    }

    private static void letGo() {
        TravelPurses x = new TravelPurses();
        x.load(0, 100);
        x.hold(0, 0, 50);
        CHECK.fails("hold 1", Check.NO_SUCH, x, () -> x.letGo(1));
        CHECK.fails("hold -1", Check.NO_SUCH, x, () -> x.letGo(-1));
        CHECK.is("what it kept", x.letGo(0), 60);
        CHECK.is("all is free", x.purse(0, 0, 2), 100);
        CHECK.fails("hold 0", Check.NO_SUCH, x, () -> x.letGo(0));
    }

    private static void passDropsOldHolds() {
        TravelPurses x = new TravelPurses();
        x.load(0, 1000);
        x.hold(0, 0, 10);
        CHECK.is("5 days", x.pass(5), 0);
        CHECK.is("it is still there", x.count(1), 1);
        CHECK.is("the sixth day", x.pass(1), 1);
        CHECK.is("day", x.count(0), 6);
        CHECK.is("no hold", x.count(1), 0);
        x.hold(0, 0, 10);
        x.pass(3);
        x.set(3, 0);
        CHECK.is("a setting alone drops none", x.count(1), 1);
        CHECK.is("the next day does", x.pass(1), 1);
        x.hold(0, 0, 10);
        x.set(3, 60);
        CHECK.is("60 days", x.pass(60), 0);
        CHECK.is("61 days", x.pass(1), 1);
    }

    private static void passDropsSomeHolds() {
        TravelPurses x = new TravelPurses();
        x.load(0, 1000);
        x.set(3, 2);
        x.hold(0, 0, 10);
        x.pass(1);
        x.hold(0, 0, 20);
        x.hold(0, 0, 30);
        x.pass(1);
        x.hold(0, 0, 40);
        CHECK.is("the three old ones", x.pass(2), 3);
        CHECK.is("one is left", x.count(1), 1);
        CHECK.is("the youngest", x.held(0, 2), 40);
        x.hold(0, 0, 50);
        CHECK.is("kept", x.purse(0, 0, 1), 108);
        CHECK.is("the last ones", x.pass(60), 2);
    }

    private static void passRefused() {
        TravelPurses x = new TravelPurses();
        CHECK.fails("0 days", Check.WRONG, x, () -> x.pass(0));
        CHECK.fails("-1 days", Check.WRONG, x, () -> x.pass(-1));
        CHECK.fails("61 days", Check.WRONG, x, () -> x.pass(61));
        for (int i = 0; i < 83; i++) {
            x.pass(60);
        }
        CHECK.is("day", x.count(0), 4980);
        CHECK.fails("too late a day", Check.REFUSED, x, () -> x.pass(21));
        CHECK.fails("range ahead of it", Check.WRONG, x, () -> x.pass(61));
        x.pass(20);
        CHECK.is("the last day", x.count(0), 5000);
        CHECK.fails("a day more", Check.REFUSED, x, () -> x.pass(1));
    }

    private static void heldRefused() {
        TravelPurses x = new TravelPurses();
        CHECK.fails("no hold", Check.NO_SUCH, x, () -> x.held(0, 5));
        x.load(0, 100);
        x.hold(0, 0, 10);
        CHECK.fails("hold 1", Check.NO_SUCH, x, () -> x.held(1, 0));
        CHECK.fails("hold -1", Check.NO_SUCH, x, () -> x.held(-1, 0));
        CHECK.fails("what 5", Check.WRONG, x, () -> x.held(0, 5));
        CHECK.fails("what -1", Check.WRONG, x, () -> x.held(0, -1));
    }
}
