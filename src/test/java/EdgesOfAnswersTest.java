import java.io.IOException;

/** Sentences of the promises 19 to 23: purse, held, payment, count, setting. */
public final class EdgesOfAnswersTest {
    private static final int LEAST = Integer.MIN_VALUE;
    private static final int MOST = Integer.MAX_VALUE;

    private EdgesOfAnswersTest() {
    }

    public static void main(String[] args) throws IOException {
        Edges edges = new Edges("EdgesOfAnswersTest");
        purseArguments(edges);
        purse(edges);
        held(edges);
        payment(edges);
        countsOfNow(edges);
        countsSoFar(edges);
        setting(edges);
        edges.end();
    }

    private static void purseArguments(Edges edges) {
        edges.under("Promise 19: purse");
        edges.of("`wallet`: 0 to 3", c -> {
            TravelPurses x = new TravelPurses();
            x.load(0, 5);
            x.load(3, 7);
            c.is("the least", x.purse(0, 0, 0), 5);
            c.is("the greatest", x.purse(3, 0, 0), 7);
            c.is("one between them", x.purse(1, 0, 0) + x.purse(2, 0, 0), 0);
        });
        edges.of("`currency`: 0 to 3", c -> {
            TravelPurses x = Scenes.with(3, 8);
            x.load(0, 3);
            c.is("the least", x.purse(0, 0, 0), 3);
            c.is("the greatest", x.purse(0, 3, 0), 8);
            c.is("one between them", x.purse(0, 1, 0) + x.purse(0, 2, 0), 0);
        });
        edges.of("Throws `IndexOutOfBoundsException` if there is no such wallet or currency", c -> {
            TravelPurses x = new TravelPurses();
            c.failsWith(Check.NO_SUCH, x, wallet -> x.purse(wallet, 0, 0), -1, 4, 1 << 30, LEAST,
                    MOST);
            c.failsWith(Check.NO_SUCH, x, currency -> x.purse(0, currency, 0), -1, 4, 15, LEAST,
                    MOST);
            c.fails("behind the wallet before", Check.NO_SUCH, x, () -> x.purse(-1, 4, 0));
            c.fails("ahead of the wallet behind", Check.NO_SUCH, x, () -> x.purse(4, -1, 0));
            c.fails("in the wallet before", Check.NO_SUCH, x, () -> x.purse(1, -1, 0));
        });
        edges.of("Throws `IllegalArgumentException` if what is not 0 to 7", c -> {
            TravelPurses x = new TravelPurses();
            c.is("the least", x.purse(0, 0, 0), 0);
            c.is("the greatest", x.purse(0, 0, 7), 0);
            c.failsWith(Check.WRONG, x, what -> x.purse(0, 0, what), -1, 8, LEAST, MOST);
            c.failsWith(Check.WRONG, x, what -> x.purse(3, 3, what), -1, 8);
        });
    }

    private static void purse(Edges edges) {
        edges.of("0: balance; 1: what its holds keep; 2: what is free; 3: debt;", c -> {
            TravelPurses x = Scenes.withDebt(0, 100);
            c.is("debt", x.purse(0, 0, 3), 100);
            x.set(2, 50);
            x.hold(0, 1, 21);
            x.hold(0, 1, 20);
            c.is("balance, with what is held", x.purse(0, 1, 0), 100);
            c.is("what both keep, with the room", x.purse(0, 1, 1), 61);
            c.is("what is free", x.purse(0, 1, 2), 39);
            c.is("no debt of this one", x.purse(0, 1, 3), 0);
            c.is("nothing held of the other one", x.purse(0, 0, 1), 0);
        });
        edges.of("4: the rate of the wallet for the currency (1000 for 0)", c -> {
            TravelPurses x = new TravelPurses();
            int[] rates = {1000, 1000, 1500, 500};
            for (int currency = 0; currency <= 3; currency++) {
                c.is("rate of " + currency, x.purse(2, currency, 4), rates[currency]);
            }
            for (int currency = 1; currency <= 3; currency++) {
                x.quote(currency, 2000);
            }
            c.is("still 1000 for 0", x.purse(2, 0, 4), 1000);
            c.is("the market rate", x.purse(2, 3, 4), 2000);
        });
        edges.of("5: the last day on which a locked rate counts, NONE if none counts now", c -> {
            TravelPurses x = new TravelPurses();
            c.is("no lock", x.purse(0, 1, 5), -1);
            x.set(0, 0);
            x.lock(0, 1);
            c.is("the day 0", x.purse(0, 1, 5), 0);
            x.pass(1);
            c.is("it counts no longer", x.purse(0, 1, 5), -1);
            x.set(0, 2);
            x.lock(0, 1);
            x.pass(2);
            c.is("on its last day", x.purse(0, 1, 5), 3);
            x.pass(1);
            c.is("a day later", x.purse(0, 1, 5), -1);
            c.is("never for home money", x.purse(0, 0, 5), -1);
        });
        edges.of("6: provisional credit in it (of payments that are disputed now)", c -> {
            TravelPurses x = Scenes.withPayments(4);
            c.is("none of plain payments", x.purse(0, 0, 6), 0);
            x.dispute(0);
            x.dispute(1);
            x.dispute(2);
            c.is("of all that are disputed", x.purse(0, 0, 6), 36);
            x.decide(0, true);
            c.is("not of one that is won", x.purse(0, 0, 6), 25);
            x.decide(1, false);
            c.is("nor of one that is lost", x.purse(0, 0, 6), 13);
            c.is("of this purse", x.purse(0, 1, 6) + x.purse(1, 0, 6), 0);
            x.exchange(0, 0, 1, 1024);
            c.is("also when it is spent", x.purse(0, 0, 6), 13);
        });
        edges.of("7: the sum of all payments out of it so far", c -> {
            TravelPurses x = Scenes.withPayments(4);
            x.exchange(0, 0, 2, 300);
            x.hold(0, 2, 50);
            c.is("not what is held", x.purse(0, 2, 7), 0);
            x.pay(0, 33);
            x.dispute(0);
            x.dispute(1);
            x.decide(1, true);
            x.dispute(2);
            x.decide(2, false);
            c.is("whatever they are", x.purse(0, 0, 7), 11 + 12 + 13 + 14);
            c.is("of this purse", x.purse(0, 2, 7), 33);
            x.decide(0, true);
            x.close(0);
            c.is("also after closing", x.purse(0, 0, 7), 50);
            c.is("not of another wallet", x.purse(1, 0, 7), 0);
        });
    }

    private static void held(Edges edges) {
        edges.under("Promise 20: held");
        edges.of("`hold`: its number", c -> {
            TravelPurses x = Scenes.withHolds(8);
            for (int hold = 0; hold <= 7; hold++) {
                c.is("hold " + hold, x.held(hold, 2), 11 + hold);
            }
        });
        edges.of("0: its wallet; 1: its currency; 2: its amount; 3: what it keeps; 4: the day on"
                + " which it was made", c -> {
            TravelPurses x = new TravelPurses();
            x.pass(9);
            x.load(3, 100);
            x.exchange(3, 0, 2, 100);
            x.hold(3, 2, 19);
            x.pass(1);
            int[] due = {3, 2, 19, 22, 9};
            for (int what = 0; what <= 4; what++) {
                c.is("property " + what, x.held(0, what), due[what]);
            }
        });
        edges.of("Throws `IndexOutOfBoundsException` if there is no such hold", c -> {
            TravelPurses x = new TravelPurses();
            c.failsWith(Check.NO_SUCH, x, hold -> x.held(hold, 0), 0, -1, 7, 8, LEAST, MOST);
            TravelPurses y = Scenes.withHolds(8);
            c.failsWith(Check.NO_SUCH, y, hold -> y.held(hold, 0), 8, -1, LEAST, MOST);
            y.letGo(2);
            c.failsWith(Check.NO_SUCH, y, hold -> y.held(hold, 0), 7);
        });
        edges.of("Throws `IllegalArgumentException` if what is not 0 to 4", c -> {
            TravelPurses x = Scenes.withHolds(1);
            c.failsWith(Check.WRONG, x, what -> x.held(0, what), -1, 5, LEAST, MOST);
        });
    }

    private static void payment(Edges edges) {
        edges.under("Promise 21: payment");
        edges.of("`payment`: its number", c -> {
            TravelPurses x = Scenes.withPayments(12);
            for (int payment = 0; payment <= 11; payment++) {
                c.is("payment " + payment, x.payment(payment, 2), 11 + payment);
            }
        });
        edges.of("0: its wallet; 1: its currency; 2: its amount; 3: the day on which it was made;",
                c -> {
            TravelPurses x = new TravelPurses();
            x.pass(9);
            x.load(3, 100);
            x.exchange(3, 0, 2, 100);
            x.hold(3, 2, 19);
            x.pass(1);
            x.pay(0, 21);
            x.pass(1);
            int[] due = {3, 2, 21, 10};
            for (int what = 0; what <= 3; what++) {
                c.is("property " + what, x.payment(0, what), due[what]);
            }
        });
        edges.of("4: what it is, 0 to 3", c -> {
            TravelPurses x = Scenes.withPayments(2);
            c.is("plain", x.payment(0, 4), 0);
            x.dispute(0);
            c.is("disputed", x.payment(0, 4), 1);
            x.decide(0, true);
            c.is("won", x.payment(0, 4), 2);
            x.dispute(1);
            x.decide(1, false);
            c.is("lost", x.payment(1, 4), 3);
        });
        edges.of("5: 1 if it could be disputed now, otherwise 0", c -> {
            TravelPurses x = Scenes.withPayments(3);
            c.is("plain", x.payment(0, 5), 1);
            x.dispute(0);
            c.is("disputed", x.payment(0, 5), 0);
            x.decide(0, true);
            c.is("won", x.payment(0, 5), 0);
            x.dispute(1);
            x.decide(1, false);
            c.is("lost", x.payment(1, 5), 0);
            x.pass(30);
            c.is("30 days later", x.payment(2, 5), 1);
            x.pass(1);
            c.is("31 days later", x.payment(2, 5), 0);
        });
        edges.of("Throws `IndexOutOfBoundsException` if there is no such payment", c -> {
            TravelPurses x = new TravelPurses();
            c.failsWith(Check.NO_SUCH, x, payment -> x.payment(payment, 0), 0, -1, 11, 12, LEAST,
                    MOST);
            TravelPurses y = Scenes.withPayments(12);
            c.failsWith(Check.NO_SUCH, y, payment -> y.payment(payment, 0), 12, -1, LEAST, MOST);
            y.undo();
            c.failsWith(Check.NO_SUCH, y, payment -> y.payment(payment, 0), 11);
        });
        edges.of("Throws `IllegalArgumentException` if what is not 0 to 5", c -> {
            TravelPurses x = Scenes.withPayments(1);
            c.failsWith(Check.WRONG, x, what -> x.payment(0, what), -1, 6, LEAST, MOST);
        });
    }

    private static void countsOfNow(Edges edges) {
        edges.under("Promise 22: count");
        edges.of("0: number of the day; 1: open holds; 2: payments; 3: those that are disputed;",
                c -> {
            TravelPurses x = Scenes.withPayments(12);
            x.pass(4);
            c.is("day", x.count(0), 4);
            c.is("no hold", x.count(1), 0);
            for (int i = 0; i < 8; i++) {
                x.hold(0, 0, 1);
            }
            c.is("eight holds", x.count(1), 8);
            c.is("twelve payments", x.count(2), 12);
            c.is("none disputed", x.count(3), 0);
            for (int payment = 0; payment <= 11; payment++) {
                x.dispute(payment);
            }
            c.is("all disputed", x.count(3), 12);
            x.decide(0, true);
            x.decide(11, false);
            c.is("not those that are decided", x.count(3), 10);
            c.is("they are still payments", x.count(2), 12);
        });
        edges.of("9 to 11: the market rates of the currencies 1 to 3", c -> {
            TravelPurses x = new TravelPurses();
            x.lock(0, 1);
            x.quote(1, 100);
            x.quote(2, 2000);
            x.quote(3, 333);
            c.is("currency 1", x.count(9), 100);
            c.is("currency 2", x.count(10), 2000);
            c.is("currency 3", x.count(11), 333);
        });
        edges.of("13: saved states", c -> {
            TravelPurses x = new TravelPurses();
            for (int calls = 0; calls <= 8; calls++) {
                c.is("after " + calls, x.count(13), Math.min(calls, 6));
                x.load(0, 1);
            }
        });
        edges.of("Throws `IllegalArgumentException` if what is not 0 to 13", c -> {
            TravelPurses x = Scenes.withHome(5);
            c.is("the least", x.count(0), 0);
            c.is("the greatest", x.count(13), 3);
            c.failsWith(Check.WRONG, x, what -> x.count(what), -1, 14, LEAST, MOST);
        });
    }

    private static void countsSoFar(Edges edges) {
        edges.of("4: home money that was loaded so far; 5: home money that was paid out so far",
                c -> {
            TravelPurses x = Scenes.withDebt(0, 100);
            c.is("loaded", x.count(4), 100);
            x.load(0, 101);
            c.is("with what paid debt", x.count(4), 201);
            c.is("nothing paid out", x.count(5), 0);
            x.close(0);
            c.is("paid out, with what was exchanged", x.count(5), 101);
            x.load(3, 9);
            x.close(3);
            c.is("of all wallets", x.count(5), 110);
            c.is("loaded, of all wallets", x.count(4), 210);
            x.undo();
            c.is("undone", x.count(5), 101);
        });
        edges.of("6: exchanges so far (closing makes one for each currency with a balance above"
                + " 0)", c -> {
            TravelPurses x = Scenes.withHome(100);
            x.close(1);
            c.is("none for empty purses", x.count(6), 0);
            x.exchange(0, 0, 1, 1);
            x.exchange(0, 0, 2, 2);
            x.exchange(0, 0, 3, 1);
            x.exchange(0, 3, 0, 1);
            c.is("four", x.count(6), 4);
            c.is("a balance of 1 in each", x.purse(0, 1, 0) + x.purse(0, 2, 0) + x.purse(0, 3, 0),
                    3);
            x.close(0);
            c.is("one for each, also if it gives nothing", x.count(6), 7);
            x.close(0);
            c.is("none for what is gone", x.count(6), 7);
        });
        edges.of("7: the spread in home money so far (of exchanges to home money); 8: the spread in"
                + " other money so far (of exchanges from home money, all currencies together)",
                c -> {
            TravelPurses x = Scenes.withHome(10000);
            x.set(1, 100);
            x.exchange(0, 0, 1, 1000);
            x.exchange(0, 0, 2, 1500);
            x.exchange(0, 0, 3, 500);
            c.is("all currencies together", x.count(8), 300);
            c.is("none in home money", x.count(7), 0);
            x.exchange(0, 1, 0, 500);
            c.is("in home money", x.count(7), 50);
            x.close(0);
            c.is("with those of closing", x.count(7), 50 + 40 + 135 + 45);
            c.is("other money as it was", x.count(8), 300);
        });
        edges.of("12: debt that was paid so far, all currencies together", c -> {
            TravelPurses x = Scenes.withDebt(0, 100);
            c.is("none", x.count(12), 0);
            x.load(0, 60);
            c.is("by a load", x.count(12), 60);
            x.exchange(0, 1, 0, 30);
            c.is("by an exchange", x.count(12), 90);
            x.hold(0, 1, 10);
            x.pay(0, 10);
            x.dispute(1);
            x.exchange(0, 1, 0, 70);
            c.is("the rest, and no more", x.count(12), 100);
            c.is("debt of another currency", x.decide(1, false), 10);
            x.exchange(0, 0, 1, 60);
            c.is("together", x.count(12), 110);
        });
    }

    private static void setting(Edges edges) {
        edges.under("Promise 23: setting");
        edges.of("`setting`: 0 to 3", c -> {
            TravelPurses x = new TravelPurses();
            c.is("the least", x.setting(0), 7);
            c.is("the greatest", x.setting(3), 5);
        });
        edges.of("Returns its value.", c -> {
            TravelPurses x = new TravelPurses();
            int[] most = {60, 100, 50, 60};
            for (int setting = 0; setting <= 3; setting++) {
                x.set(setting, most[setting]);
            }
            for (int setting = 0; setting <= 3; setting++) {
                c.is("setting " + setting, x.setting(setting), most[setting]);
            }
            x.undo();
            c.is("undone", x.setting(3), 5);
        });
        edges.of("Throws `IndexOutOfBoundsException` if there is no such setting", c -> {
            TravelPurses x = new TravelPurses();
            c.failsWith(Check.NO_SUCH, x, setting -> x.setting(setting), -1, 4, LEAST, MOST);
        });
    }
}
