/** Promises 13, 18 and 23: set, undo, setting; and of every call whether it is undoable. */
public final class UndoTest {
    private static final Check CHECK = new Check("UndoTest");

    private interface Act {
        long on(TravelPurses x);
    }

    public static void main(String[] args) {
        set();
        setRefused();
        undo();
        undoOfEach();
        undoOfTexts();
        undoKeepsTheBuffer();
        queriesSaveNothing();
        refusedCallsSaveNothing();
        CHECK.end();
    }

    private static void set() {
        TravelPurses x = new TravelPurses();
        int[] first = {7, 10, 20, 5};
        int[] most = {60, 100, 50, 60};
        for (int i = 0; i < 4; i++) {
            CHECK.is("set the most", x.set(i, most[i]), first[i]);
            CHECK.is("setting", x.setting(i), most[i]);
            CHECK.is("set the least", x.set(i, 0), most[i]);
            CHECK.is("setting", x.setting(i), 0);
        }
    }

    private static void setRefused() {
        TravelPurses x = new TravelPurses();
        int[] most = {60, 100, 50, 60};
        for (int i = 0; i < 4; i++) {
            int setting = i;
            CHECK.fails("above", Check.WRONG, x, () -> x.set(setting, most[setting] + 1));
            CHECK.fails("below", Check.WRONG, x, () -> x.set(setting, -1));
        }
        CHECK.fails("set(4)", Check.NO_SUCH, x, () -> x.set(4, -1));
        CHECK.fails("set(-1)", Check.NO_SUCH, x, () -> x.set(-1, 0));
        CHECK.fails("setting(4)", Check.NO_SUCH, x, () -> x.setting(4));
        CHECK.fails("setting(-1)", Check.NO_SUCH, x, () -> x.setting(-1));
    }

    private static void undo() {
        TravelPurses x = new TravelPurses();
        for (int i = 1; i <= 8; i++) {
            x.load(0, i);
            CHECK.is("saved states", x.count(13), Math.min(i, 6));
        }
        int[] balances = {28, 21, 15, 10, 6, 3};
        for (int i = 0; i < 6; i++) {
            CHECK.is("undo", x.undo(), 5 - i);
            CHECK.is("balance", x.purse(0, 0, 0), balances[i]);
        }
        CHECK.fails("no more", Check.REFUSED, x, () -> x.undo());
        x.load(0, 1);
        CHECK.is("once more", x.undo(), 0);
        CHECK.is("the state before it", x.purse(0, 0, 0), 3);
    }

    /**
     * All there is: three holds, a lock, debt, and payments 0 (plain), 1 and 2 (disputed); three
     * states are saved, of calls that changed nothing.
     */
    private static TravelPurses rich() {
        TravelPurses x = new TravelPurses();
        x.load(0, 5000);
        x.load(1, 700);
        x.exchange(0, 0, 1, 1000);
        x.exchange(0, 0, 2, 1000);
        x.exchange(1, 0, 3, 100);
        x.pass(1);
        int[] currencies = {0, 1, 2, 3};
        for (int currency : currencies) {
            x.hold(currency == 3 ? 1 : 0, currency, 100);
            x.pay(0, 110);
        }
        x.dispute(1);
        x.dispute(2);
        x.dispute(3);
        x.exchange(1, 3, 0, 190);
        x.decide(3, false);
        x.lock(0, 2);
        x.quote(2, 1234);
        x.hold(0, 0, 100);
        x.hold(0, 1, 200);
        x.pass(1);
        x.hold(1, 0, 30);
        for (int i = 0; i < 6; i++) {
            x.set(0, 7);
        }
        for (int i = 0; i < 3; i++) {
            x.undo();
        }
        return x;
    }

    private static void undone(String what, Act act) {
        TravelPurses x = rich();
        CHECK.is("saved ahead of " + what, x.count(13), 3);
        long before = x.digest();
        act.on(x);
        CHECK.is("saved by " + what, x.count(13), 4);
        CHECK.is("left after the undo of " + what, x.undo(), 3);
        CHECK.is("digest after the undo of " + what, x.digest(), before);
        act.on(x);
        x.pass(3);
        x.undo();
        x.undo();
        CHECK.is("digest after two undos, of " + what, x.digest(), before);
    }

    private static void undoOfEach() {
        TravelPurses x = rich();
        CHECK.is("there is debt", x.purse(1, 3, 3) > 0 ? 1 : 0, 1);
        CHECK.is("three holds", x.count(1), 3);
        CHECK.is("two disputes", x.count(3), 2);
        undone("load", y -> y.load(0, 5));
        undone("quote", y -> y.quote(1, 500));
        undone("quote of the same rate", y -> y.quote(1, 1000));
        undone("lock", y -> y.lock(0, 1));
        undone("lock in a lock's place", y -> y.lock(0, 2));
        undone("exchange from home", y -> y.exchange(0, 0, 1, 500));
        undone("exchange to home", y -> y.exchange(0, 1, 0, 10));
        undone("exchange that pays debt", y -> y.exchange(1, 0, 3, 10));
        undone("hold", y -> y.hold(0, 1, 10));
        undone("pay", y -> y.pay(1, 10));
        undone("pay out of the first one", y -> y.pay(0, 10));
        undone("letGo", y -> y.letGo(0));
        undone("letGo of a later one", y -> y.letGo(1));
        undone("dispute", y -> y.dispute(0));
        undone("decide won", y -> y.decide(1, true));
        undone("decide lost", y -> y.decide(2, false));
        undone("close of an empty wallet", y -> y.close(3));
        undone("pass", y -> y.pass(60));
        undone("set", y -> y.set(2, 50));
        undone("set of the same value", y -> y.set(2, 20));
        TravelPurses z = new TravelPurses();
        z.load(2, 900);
        z.exchange(2, 0, 1, 500);
        z.lock(2, 1);
        long before = z.digest();
        CHECK.is("close", z.close(2), 891);
        z.undo();
        CHECK.is("digest after the undo of a closing", z.digest(), before);
    }

    private static void undoOfTexts() {
        undone("run", y -> Check.runText(y, "l0+5;x001:5;h30:1"));
        undone("run of none", y -> Check.runText(y, "x000:5"));
    }

    private static void undoKeepsTheBuffer() {
        TravelPurses x = new TravelPurses();
        Check.type(x, "l0+5");
        CHECK.is("append saves nothing", x.count(13), 0);
        x.load(0, 1);
        Check.type(x, ";l1");
        x.undo();
        CHECK.is("the buffer stays", x.firstError(), 7);
        Check.type(x, "+1");
        x.load(0, 1);
        CHECK.is("it is cleared", x.clearBuffer(), 9);
        x.undo();
        CHECK.is("and stays so", x.clearBuffer(), 0);
    }

    private static void unchanged(String what, TravelPurses x, Check.Call call) {
        long before = x.digest();
        long first = call.answer();
        CHECK.is("digest after " + what, x.digest(), before);
        CHECK.is("second answer of " + what, call.answer(), first);
    }

    private static void queriesSaveNothing() {
        TravelPurses x = rich();
        Check.type(x, "l0+5;h");
        for (int i = 0; i < 4; i++) {
            int n = i;
            unchanged("purse", x, () -> x.purse(n, n, 2));
            unchanged("setting", x, () -> x.setting(n));
            unchanged("payment", x, () -> x.payment(n, 5));
            unchanged("ifExchanged", x, () -> x.ifExchanged(0, 0, n, 50));
            unchanged("room", x, () -> x.room(0, n));
            unchanged("ifClosed", x, () -> x.ifClosed(n));
            unchanged("heldShare", x, () -> (long) (1000 * x.heldShare(0, n)));
        }
        for (int i = 0; i < 3; i++) {
            int n = i;
            unchanged("whyNot", x, () -> x.whyNot(n, 0, 0, 1, 50));
            unchanged("needed", x, () -> x.needed(0, n + 1, 50));
        }
        for (int i = 0; i < 14; i++) {
            int n = i;
            unchanged("count", x, () -> x.count(n));
        }
        unchanged("held", x, () -> x.held(1, 3));
        unchanged("firstError", x, () -> x.firstError());
        unchanged("digest", x, () -> x.digest());
    }

    private static void refusedCallsSaveNothing() {
        TravelPurses x = new TravelPurses();
        CHECK.fails("exchange", Check.REFUSED, x, () -> x.exchange(0, 0, 1, 1));
        CHECK.fails("run", Check.WRONG, x, () -> x.run());
        CHECK.fails("undo", Check.REFUSED, x, () -> x.undo());
        CHECK.is("no state is saved", x.count(13), 0);
    }
}
