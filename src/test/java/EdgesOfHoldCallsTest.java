import java.io.IOException;

/** Sentences of the promises 6 to 13: hold, pay, letGo, dispute, decide, close, pass, set. */
public final class EdgesOfHoldCallsTest {
    private static final int LEAST = Integer.MIN_VALUE;
    private static final int MOST = Integer.MAX_VALUE;
    private static final String WALLETS = "`wallet`: 0 to 3";
    private static final String REASON = "Throws `IllegalStateException` if there is a reason"
            + " against it";
    private static final String NO_HOLD = "Throws `IndexOutOfBoundsException` if there is no such"
            + " hold";
    private static final String NO_PAYMENT = "Throws `IndexOutOfBoundsException` if there is no"
            + " such payment";

    private EdgesOfHoldCallsTest() {
    }

    public static void main(String[] args) throws IOException {
        Edges edges = new Edges("EdgesOfHoldCallsTest");
        hold(edges);
        pay(edges);
        letGo(edges);
        dispute(edges);
        decide(edges);
        close(edges);
        pass(edges);
        set(edges);
        edges.end();
    }

    private static void hold(Edges edges) {
        edges.under("Promise 6: hold");
        edges.of("Makes a hold. Undoable.", c -> {
            TravelPurses x = Scenes.withHolds(7);
            x.load(0, 50);
            x.hold(0, 0, 50);
            c.is("the eighth one", x.count(1), 8);
            c.is("the balance is as it was", x.purse(0, 0, 0), 148);
            x.undo();
            c.is("undone", x.count(1), 7);
            c.is("there is room again", x.hold(0, 0, 49), 7);
        });
        edges.of(WALLETS, c -> {
            TravelPurses x = Scenes.plain();
            for (int wallet = 0; wallet <= 3; wallet++) {
                x.load(wallet, 10);
                c.is("wallet " + wallet, x.hold(wallet, 0, 1 + wallet), wallet);
                c.is("of the hold", x.held(wallet, 0), wallet);
                c.is("kept", x.purse(wallet, 0, 1), 1 + wallet);
            }
        });
        edges.of("`currency`: 0 to 3", c -> {
            TravelPurses x = Scenes.withHome(4000);
            for (int currency = 0; currency <= 3; currency++) {
                if (currency > 0) {
                    x.exchange(0, 0, currency, 300);
                }
                c.is("currency " + currency, x.hold(0, currency, 7 + currency), currency);
                c.is("of the hold", x.held(currency, 1), currency);
                c.is("kept", x.purse(0, currency, 1), 7 + currency);
            }
        });
        edges.of("Throws `IndexOutOfBoundsException` if there is no such wallet or currency", c -> {
            TravelPurses x = Scenes.withHome(100);
            c.failsWith(Check.NO_SUCH, x, wallet -> x.hold(wallet, 0, 1), -1, 4, 1 << 30, LEAST,
                    MOST);
            c.failsWith(Check.NO_SUCH, x, currency -> x.hold(0, currency, 1), -1, 4, LEAST, MOST);
            c.fails("a purse behind", Check.NO_SUCH, x, () -> x.hold(-1, 4, 1));
        });
        edges.of("`amount`: 1 to 99999", c -> {
            TravelPurses x = Scenes.withHome(100000);
            c.is("the greatest", x.hold(0, 0, 99999), 0);
            c.is("the least", x.hold(0, 0, 1), 1);
            c.is("both are kept", x.purse(0, 0, 1), 100000);
        });
        edges.of("Throws `IllegalArgumentException` if amount is out of range", c -> {
            TravelPurses x = Scenes.withHome(200000);
            c.failsWith(Check.WRONG, x, amount -> x.hold(0, 0, amount), 0, -1, 100000, LEAST, MOST);
        });
        edges.of("Returns its number.", c -> {
            TravelPurses x = Scenes.withHome(100);
            for (int hold = 0; hold <= 7; hold++) {
                c.is("its number", x.hold(0, 0, 1), hold);
            }
            x.letGo(0);
            x.letGo(0);
            c.is("behind those that are open", x.hold(0, 0, 1), 6);
        });
        edges.of(REASON, c -> {
            TravelPurses x = Scenes.withHome(119);
            x.set(2, 20);
            c.fails("no money for the room", Check.REFUSED, x, () -> x.hold(0, 0, 100));
            c.is("less", x.hold(0, 0, 99), 0);
            c.fails("1 is free, 2 are too many", Check.REFUSED, x, () -> x.hold(0, 0, 2));
            c.is("1 is not", x.hold(0, 0, 1), 1);
            c.fails("nothing is free", Check.REFUSED, x, () -> x.hold(0, 0, 1));
            c.fails("an empty purse", Check.REFUSED, x, () -> x.hold(3, 3, 1));
        });
        edges.of(REASON, c -> {
            TravelPurses x = Scenes.withHolds(8);
            x.load(0, 100);
            x.load(3, 100);
            c.fails("a ninth one", Check.REFUSED, x, () -> x.hold(0, 0, 1));
            c.fails("of another wallet", Check.REFUSED, x, () -> x.hold(3, 0, 1));
            x.pay(7, 1);
            c.is("an eighth one", x.hold(3, 0, 1), 7);
            x.pass(60);
            c.is("when all are gone", x.hold(3, 0, 1), 0);
        });
        edges.of(REASON, c -> {
            TravelPurses x = Scenes.withDebt(0, 50);
            c.is("a debt is none", x.hold(0, 1, 50), 0);
        });
    }

    private static void pay(Edges edges) {
        edges.under("Promise 7: pay");
        edges.of("Takes a payment out of a hold. Undoable.", c -> {
            TravelPurses x = Scenes.withHolds(3);
            x.pay(1, 5);
            c.is("balance", x.purse(0, 0, 0), 31);
            c.is("free", x.purse(0, 0, 2), 7);
            x.undo();
            c.is("the hold is back in its place", x.held(1, 2), 12);
            c.is("no payment", x.count(2), 0);
            c.is("balance again", x.purse(0, 0, 0), 36);
        });
        edges.of("`hold`: its number", c -> {
            for (int hold = 0; hold <= 7; hold++) {
                TravelPurses x = Scenes.withHolds(8);
                x.pay(hold, 11 + hold);
                c.is("payment out of " + hold, x.payment(0, 2), 11 + hold);
                c.is("the hold is gone", x.purse(0, 0, 1), 116 - 11 - hold);
            }
        });
        edges.of(NO_HOLD, c -> {
            TravelPurses x = new TravelPurses();
            c.failsWith(Check.NO_SUCH, x, hold -> x.pay(hold, 1), 0, -1, 7, 8, LEAST, MOST);
            TravelPurses y = Scenes.withHolds(2);
            c.failsWith(Check.NO_SUCH, y, hold -> y.pay(hold, 1), 2, -1, 7, 8, LEAST, MOST);
            TravelPurses z = Scenes.withHolds(8);
            c.failsWith(Check.NO_SUCH, z, hold -> z.pay(hold, 1), 8, -1, LEAST, MOST);
            z.pay(7, 1);
            c.failsWith(Check.NO_SUCH, z, hold -> z.pay(hold, 1), 7);
        });
        edges.of("`amount`: at least 1", c -> {
            TravelPurses x = Scenes.withHolds(2);
            c.is("the least", x.pay(0, 1), 0);
            c.is("all of it", x.pay(0, 12), 1);
            c.is("balance", x.purse(0, 0, 0), 10);
            TravelPurses y = Scenes.withHome(149998);
            y.set(2, 50);
            y.hold(0, 0, 99999);
            c.is("more than 99999", y.pay(0, 149998), 0);
            c.is("nothing left", y.purse(0, 0, 0), 0);
        });
        edges.of("Throws `IllegalArgumentException` if amount is below 1", c -> {
            TravelPurses x = Scenes.withHolds(2);
            c.failsWith(Check.WRONG, x, amount -> x.pay(0, amount), 0, -1, LEAST);
        });
        edges.of("Returns the number of the payment.", c -> {
            TravelPurses x = Scenes.withHome(100);
            for (int payment = 0; payment <= 11; payment++) {
                x.hold(0, 0, 2);
                c.is("its number", x.pay(0, 1), payment);
            }
        });
        String sentence = "Throws `IllegalStateException` if it is more than the hold keeps, or"
                + " there are 12 payments";
        edges.of(sentence, c -> {
            TravelPurses x = Scenes.withHome(500);
            x.set(2, 20);
            x.hold(0, 0, 104);
            c.failsWith(Check.REFUSED, x, amount -> x.pay(0, amount), 125, 500, 100000, MOST);
            c.is("what it keeps", x.pay(0, 124), 0);
        });
        edges.of(sentence, c -> {
            TravelPurses x = Scenes.withPayments(12);
            x.hold(0, 0, 5);
            c.fails("a thirteenth one", Check.REFUSED, x, () -> x.pay(0, 5));
            c.is("the hold is still there", x.held(0, 3), 5);
            x.undo();
            x.undo();
            x.hold(0, 0, 1);
            c.is("a twelfth one in an undone one's place", x.pay(0, 1), 11);
        });
    }

    private static void letGo(Edges edges) {
        edges.under("Promise 8: letGo");
        edges.of("Lets a hold go. Undoable.", c -> {
            TravelPurses x = Scenes.withHolds(3);
            x.letGo(0);
            c.is("its money is free", x.purse(0, 0, 2), 11);
            c.is("the balance is as it was", x.purse(0, 0, 0), 36);
            c.is("no payment", x.count(2), 0);
            x.undo();
            c.is("the hold is back in its place", x.held(0, 2), 11);
        });
        edges.of("`hold`: its number", c -> {
            for (int hold = 0; hold <= 7; hold++) {
                TravelPurses x = Scenes.withHolds(8);
                c.is("hold " + hold, x.letGo(hold), 11 + hold);
                c.is("its money is free", x.purse(0, 0, 2), 11 + hold);
            }
        });
        edges.of(NO_HOLD, c -> {
            TravelPurses x = new TravelPurses();
            c.failsWith(Check.NO_SUCH, x, hold -> x.letGo(hold), 0, -1, 7, 8, LEAST, MOST);
            TravelPurses y = Scenes.withHolds(8);
            c.failsWith(Check.NO_SUCH, y, hold -> y.letGo(hold), 8, -1, LEAST, MOST);
            y.letGo(0);
            c.failsWith(Check.NO_SUCH, y, hold -> y.letGo(hold), 7);
        });
        edges.of("Returns what it kept.", c -> {
            TravelPurses x = Scenes.withHome(200000);
            x.set(2, 50);
            x.hold(0, 0, 99999);
            x.hold(0, 0, 1);
            x.set(2, 0);
            c.is("with the greatest room", x.letGo(0), 149998);
            c.is("with no room", x.letGo(0), 1);
        });
    }

    private static void dispute(Edges edges) {
        edges.under("Promise 9: dispute");
        edges.of("Disputes a payment. Undoable.", c -> {
            TravelPurses x = Scenes.withPayments(2);
            x.dispute(1);
            c.is("it is disputed", x.payment(1, 4), 1);
            c.is("the other one is not", x.payment(0, 4), 0);
            x.undo();
            c.is("undone", x.payment(1, 4), 0);
            c.is("no credit", x.purse(0, 0, 0), 1000);
        });
        edges.of("`payment`: its number", c -> {
            for (int payment = 0; payment <= 11; payment++) {
                TravelPurses x = Scenes.withPayments(12);
                c.is("payment " + payment, x.dispute(payment), 1011 + payment);
            }
        });
        edges.of(NO_PAYMENT, c -> {
            TravelPurses x = new TravelPurses();
            c.failsWith(Check.NO_SUCH, x, payment -> x.dispute(payment), 0, -1, 11, 12, LEAST,
                    MOST);
            TravelPurses y = Scenes.withPayments(12);
            c.failsWith(Check.NO_SUCH, y, payment -> y.dispute(payment), 12, -1, LEAST, MOST);
            y.undo();
            c.failsWith(Check.NO_SUCH, y, payment -> y.dispute(payment), 11);
        });
        edges.of("Returns the balance of the purse then.", c -> {
            TravelPurses x = Scenes.withHome(300);
            x.hold(0, 0, 100);
            x.hold(0, 0, 150);
            x.pay(0, 100);
            x.pay(0, 50);
            x.hold(0, 0, 150);
            c.is("also what is held", x.dispute(0), 250);
            x.exchange(0, 0, 1, 100);
            x.decide(0, false);
            c.is("less what pays the debt", x.dispute(1), 150);
            c.is("all of it", x.purse(0, 0, 3), 50);
        });
        String sentence = "Throws `IllegalStateException` if it is not plain, or too old";
        edges.of(sentence, c -> {
            TravelPurses x = Scenes.withPayments(3);
            x.dispute(0);
            c.fails("disputed", Check.REFUSED, x, () -> x.dispute(0));
            x.decide(0, true);
            c.fails("won", Check.REFUSED, x, () -> x.dispute(0));
            x.dispute(1);
            x.decide(1, false);
            c.fails("lost", Check.REFUSED, x, () -> x.dispute(1));
            c.is("plain", x.dispute(2), 1024);
        });
        edges.of(sentence, c -> {
            TravelPurses x = Scenes.withPayments(2);
            x.pass(30);
            c.is("30 days later", x.dispute(0), 1011);
            x.pass(1);
            c.fails("31 days later", Check.REFUSED, x, () -> x.dispute(1));
            x.pass(60);
            c.fails("91 days later", Check.REFUSED, x, () -> x.dispute(1));
            x.undo();
            x.undo();
            c.is("again 30 days later", x.dispute(1), 1023);
        });
        edges.of(sentence, c -> {
            TravelPurses x = Scenes.onDay(4990);
            x.load(0, 100);
            x.hold(0, 0, 10);
            x.pay(0, 10);
            x.pass(10);
            c.is("on the last day of all", x.dispute(0), 100);
        });
    }

    private static void decide(Edges edges) {
        edges.under("Promise 10: decide");
        edges.of("Decides a dispute. Undoable.", c -> {
            TravelPurses x = Scenes.withPayments(1);
            x.dispute(0);
            x.decide(0, false);
            c.is("taken back", x.purse(0, 0, 0), 1000);
            x.undo();
            c.is("disputed again", x.payment(0, 4), 1);
            c.is("credit again", x.purse(0, 0, 6), 11);
            x.decide(0, true);
            c.is("the other way", x.payment(0, 4), 2);
        });
        edges.of("`payment`: its number", c -> {
            for (int payment = 0; payment <= 11; payment++) {
                TravelPurses x = Scenes.withPayments(12);
                x.dispute(payment);
                x.exchange(0, 0, 1, 1011 + payment);
                c.is("payment " + payment, x.decide(payment, false), 11 + payment);
            }
        });
        edges.of("`isWon`: whether it is won, otherwise lost", c -> {
            TravelPurses x = Scenes.withPayments(2);
            x.dispute(0);
            x.dispute(1);
            x.decide(0, true);
            x.decide(1, false);
            c.is("won", x.payment(0, 4), 2);
            c.is("lost", x.payment(1, 4), 3);
            c.is("the credit of the one that is won", x.purse(0, 0, 0), 1011);
        });
        edges.of("Returns what becomes debt by it.", c -> {
            TravelPurses x = Scenes.withPayments(3);
            x.dispute(0);
            x.dispute(1);
            x.dispute(2);
            x.exchange(0, 0, 1, 1036 - 15);
            c.is("nothing when won", x.decide(0, true), 0);
            c.is("nothing when enough is free", x.decide(1, false), 0);
            c.is("only what is not free", x.decide(2, false), 10);
        });
        edges.of(NO_PAYMENT, c -> {
            TravelPurses x = new TravelPurses();
            c.failsWith(Check.NO_SUCH, x, payment -> x.decide(payment, true), 0, -1, 11, 12, LEAST,
                    MOST);
            TravelPurses y = Scenes.withPayments(12);
            y.dispute(11);
            c.failsWith(Check.NO_SUCH, y, payment -> y.decide(payment, false), 12, -1, LEAST, MOST);
        });
        edges.of("Throws `IllegalStateException` if it is not disputed", c -> {
            TravelPurses x = Scenes.withPayments(2);
            c.fails("plain", Check.REFUSED, x, () -> x.decide(0, true));
            c.fails("plain, lost", Check.REFUSED, x, () -> x.decide(0, false));
            x.dispute(0);
            x.decide(0, true);
            c.fails("won", Check.REFUSED, x, () -> x.decide(0, false));
            x.dispute(1);
            x.decide(1, false);
            c.fails("lost", Check.REFUSED, x, () -> x.decide(1, true));
        });
        edges.of("Throws `IllegalStateException` if it is not disputed", c -> {
            TravelPurses x = Scenes.withPayments(1);
            x.dispute(0);
            Scenes.pass(x, 200);
            c.is("it can be decided on any later day", x.decide(0, false), 0);
        });
    }

    private static void close(Edges edges) {
        edges.under("Promise 11: close");
        edges.of("Closes a wallet (it can be used again then). Undoable.", c -> {
            TravelPurses x = Scenes.withHome(1000);
            x.exchange(0, 0, 1, 300);
            x.lock(0, 1);
            x.close(0);
            c.is("load", x.load(0, 500), 500);
            c.is("exchange", x.exchange(0, 0, 1, 200), 200);
            c.is("hold", x.hold(0, 1, 100), 0);
            c.is("pay", x.pay(0, 50), 0);
            c.is("close again", x.close(0), 450);
            x.undo();
            x.undo();
            x.undo();
            x.undo();
            x.undo();
            x.undo();
            c.is("undone", x.purse(0, 0, 0) + x.purse(0, 1, 0), 1000);
            c.is("the lock is back", x.purse(0, 1, 5), 7);
            c.is("nothing is paid out", x.count(5), 0);
        });
        edges.of(WALLETS, c -> {
            TravelPurses x = new TravelPurses();
            for (int wallet = 0; wallet <= 3; wallet++) {
                x.load(wallet, 10 + wallet);
            }
            for (int wallet = 3; wallet >= 0; wallet--) {
                c.is("wallet " + wallet, x.close(wallet), 10 + wallet);
            }
            c.is("paid out", x.count(5), 46);
        });
        edges.of("Throws `IndexOutOfBoundsException` if there is no such wallet", c -> {
            TravelPurses x = Scenes.withHome(10);
            c.failsWith(Check.NO_SUCH, x, wallet -> x.close(wallet), -1, 4, 1 << 30, LEAST, MOST);
        });
        edges.of("Returns the home money that is paid out.", c -> {
            TravelPurses x = new TravelPurses();
            c.is("of an empty wallet", x.close(0), 0);
            x.load(0, 1);
            c.is("the least", x.close(0), 1);
            TravelPurses y = Scenes.with(3, 1000000);
            y.set(1, 100);
            c.is("an exchange of more than 99999", y.close(0), 450000);
            c.is("at once", y.count(6), 7);
        });
        edges.of("Returns the home money that is paid out.", c -> {
            TravelPurses x = Scenes.with(3, 2);
            x.exchange(0, 3, 0, 1);
            c.is("too little to give anything", x.close(0), 0);
            c.is("it is exchanged all the same", x.purse(0, 3, 0), 0);
            c.is("and counted", x.count(6), 3);
        });
        edges.of("Returns the home money that is paid out.", c -> {
            TravelPurses x = Scenes.plain();
            x.quote(1, 100);
            for (int i = 0; i < 30; i++) {
                x.load(0, 99999);
                x.exchange(0, 0, 1, 99999);
            }
            x.quote(1, 2000);
            x.set(1, 100);
            c.is("amount * r is far above the ints", x.ifClosed(0), 53999460);
            c.is("and so is its spread", x.close(0), 53999460);
            c.is("the spread", x.count(7), 5999940);
            c.is("paid out", x.count(5), 53999460);
        });
        edges.of(REASON, c -> {
            TravelPurses x = Scenes.withHolds(1);
            c.fails("a hold", Check.REFUSED, x, () -> x.close(0));
            c.is("another wallet", x.close(1), 0);
            x.pay(0, 11);
            x.dispute(0);
            c.fails("a dispute", Check.REFUSED, x, () -> x.close(0));
            c.is("another wallet", x.close(3), 0);
            x.exchange(0, 0, 1, 1);
            x.decide(0, false);
            c.fails("a debt", Check.REFUSED, x, () -> x.close(0));
            c.is("another wallet", x.close(2), 0);
            x.load(0, 1);
            c.is("no reason", x.close(0), 1);
        });
    }

    private static void pass(Edges edges) {
        edges.under("Promise 12: pass");
        edges.of("Lets days pass. Undoable, as one call.", c -> {
            TravelPurses x = Scenes.withHolds(2);
            x.pass(2);
            x.pass(4);
            c.is("day", x.count(0), 6);
            c.is("a state for each call", x.count(13), 6);
            x.undo();
            c.is("all of its days are undone", x.count(0), 2);
            c.is("the holds are back", x.purse(0, 0, 1), 23);
            x.undo();
            c.is("and those of the call before", x.count(0), 0);
        });
        edges.of("`days`: 1 to 60", c -> {
            TravelPurses x = new TravelPurses();
            c.is("the least", x.pass(1), 0);
            c.is("day", x.count(0), 1);
            c.is("the most", x.pass(60), 0);
            c.is("day", x.count(0), 61);
        });
        edges.of("Throws `IllegalArgumentException` if days is out of range", c -> {
            TravelPurses x = Scenes.withHolds(1);
            x.pass(1);
            c.failsWith(Check.WRONG, x, days -> x.pass(days), 0, -1, 61, LEAST, MOST);
        });
        edges.of("Returns how many holds are gone in them.", c -> {
            TravelPurses x = Scenes.withHome(100);
            x.set(3, 3);
            for (int hold = 0; hold < 8; hold++) {
                x.hold(0, 0, 2);
                if (hold == 1 || hold == 4) {
                    x.pass(1);
                }
            }
            c.is("none", x.pass(1), 0);
            c.is("those of the first day", x.pass(1), 2);
            c.is("those of the second day", x.pass(1), 3);
            c.is("those of the third day", x.pass(1), 3);
            c.is("none any more", x.pass(60), 0);
        });
        edges.of("Returns how many holds are gone in them.", c -> {
            TravelPurses x = Scenes.withHolds(8);
            c.is("all of them at once", x.pass(60), 8);
            c.is("nothing is held", x.purse(0, 0, 2), 116);
            TravelPurses y = Scenes.withHolds(4);
            y.pass(3);
            y.load(0, 10);
            y.hold(0, 0, 5);
            y.hold(0, 0, 4);
            c.is("some of them", y.pass(5), 4);
            c.is("the others are left", y.count(1), 2);
            c.is("in their order", y.held(0, 2), 5);
        });
        edges.of("Throws `IllegalStateException` if the number of the day would be above 5000",
                c -> {
            TravelPurses x = Scenes.onDay(4940);
            c.is("the most days to the last one", x.pass(60), 0);
            c.is("the last day", x.count(0), 5000);
            c.fails("a day more", Check.REFUSED, x, () -> x.pass(1));
            c.fails("60 days more", Check.REFUSED, x, () -> x.pass(60));
            TravelPurses y = Scenes.onDay(4941);
            c.fails("a day too many", Check.REFUSED, y, () -> y.pass(60));
            c.is("to the last one", y.pass(59), 0);
            c.is("the last day", y.count(0), 5000);
        });
    }

    private static void set(Edges edges) {
        edges.under("Promise 13: set");
        edges.of("Changes a setting. Undoable.", c -> {
            TravelPurses x = new TravelPurses();
            for (int setting = 0; setting <= 3; setting++) {
                x.set(setting, 1 + setting);
            }
            for (int setting = 0; setting <= 3; setting++) {
                c.is("setting " + setting, x.setting(setting), 1 + setting);
            }
            x.undo();
            c.is("undone", x.setting(3), 5);
            c.is("the others stay", x.setting(2), 3);
        });
        edges.of("`setting`: 0 to 3", c -> {
            TravelPurses x = new TravelPurses();
            c.is("the least", x.set(0, 9), 7);
            c.is("the greatest", x.set(3, 9), 5);
        });
        edges.of("Throws `IndexOutOfBoundsException` if there is no such setting", c -> {
            TravelPurses x = new TravelPurses();
            c.failsWith(Check.NO_SUCH, x, setting -> x.set(setting, 5), -1, 4, LEAST, MOST);
        });
        edges.of("`value`: the new value", c -> {
            int[] most = {60, 100, 50, 60};
            for (int setting = 0; setting <= 3; setting++) {
                TravelPurses x = new TravelPurses();
                x.set(setting, most[setting]);
                c.is("the greatest", x.setting(setting), most[setting]);
                x.set(setting, 0);
                c.is("the least", x.setting(setting), 0);
            }
        });
        edges.of("Throws `IllegalArgumentException` if value is out of range", c -> {
            int[] most = {60, 100, 50, 60};
            TravelPurses x = new TravelPurses();
            for (int i = 0; i <= 3; i++) {
                int setting = i;
                c.failsWith(Check.WRONG, x, value -> x.set(setting, value), -1, most[setting] + 1,
                        LEAST, MOST);
            }
        });
        edges.of("Returns the previous value.", c -> {
            TravelPurses x = new TravelPurses();
            int[] first = {7, 10, 20, 5};
            for (int setting = 0; setting <= 3; setting++) {
                c.is("at first", x.set(setting, 30), first[setting]);
                c.is("then", x.set(setting, 40), 30);
                c.is("the same one", x.set(setting, 40), 40);
            }
        });
    }
}
