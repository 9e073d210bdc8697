import java.io.IOException;

/** Sentences of the promises 24 to 29: what would be. */
public final class EdgesOfWouldBeTest {
    private static final int NONE = TravelPurses.NONE;
    private static final int LEAST = Integer.MIN_VALUE;
    private static final int MOST = Integer.MAX_VALUE;
    private static final String WALLETS = "`wallet`: 0 to 3";
    private static final String CURRENCIES = "`currency`: 0 to 3";
    private static final String NO_WALLET = "Throws `IndexOutOfBoundsException` if there is no such"
            + " wallet";
    private static final String NO_PURSE = "Throws `IndexOutOfBoundsException` if there is no such"
            + " wallet or currency";
    private static final String WRONG_AMOUNT = "Throws `IllegalArgumentException` if amount is out"
            + " of range";

    private EdgesOfWouldBeTest() {
    }

    public static void main(String[] args) throws IOException {
        Edges edges = new Edges("EdgesOfWouldBeTest");
        edges.under("Terms");
        edges.of("what would be; nothing is changed.", EdgesOfWouldBeTest::nothingIsChanged);
        ifExchangedArguments(edges);
        ifExchanged(edges);
        neededArguments(edges);
        needed(edges);
        room(edges);
        whyNotArguments(edges);
        whyNotCurrencies(edges);
        whyNot(edges);
        ifClosed(edges);
        heldShare(edges);
        edges.end();
    }

    /** Nor do those calls that tell what there is. */
    private static void nothingIsChanged(Check c) {
        TravelPurses x = Scenes.withPayments(3);
        x.dispute(1);
        x.hold(0, 0, 10);
        Check.type(x, "l0+1;");
        x.undo();
        x.undo();
        long before = x.digest();
        for (int i = 0; i <= 3; i++) {
            x.ifExchanged(i, 0, 1 + i % 3, 500);
            x.needed(i, 1 + i % 3, 500);
            x.room(i, i);
            x.whyNot(i % 3, i, i, 0, 500);
            x.ifClosed(i);
            x.heldShare(i, i);
            x.purse(i, i, i);
            x.count(i);
            x.setting(i);
            x.firstError();
            c.is("digest", x.digest(), before);
        }
        c.is("saved states", x.undo(), 3);
        c.is("the buffer", x.clearBuffer(), 5);
    }

    private static void ifExchangedArguments(Edges edges) {
        edges.under("Promise 24: ifExchanged");
        edges.of(WALLETS, c -> {
            TravelPurses x = new TravelPurses();
            x.lock(0, 1);
            x.quote(1, 500);
            x.lock(3, 1);
            x.quote(1, 250);
            c.is("the least", x.ifExchanged(0, 0, 1, 50), 50);
            c.is("one between them", x.ifExchanged(1, 0, 1, 50), 198);
            c.is("the greatest", x.ifExchanged(3, 0, 1, 50), 99);
        });
        edges.of("`from`: 0 to 3", c -> {
            TravelPurses x = new TravelPurses();
            c.is("the least", x.ifExchanged(0, 0, 1, 50), 50);
            c.is("between", x.ifExchanged(0, 1, 0, 50) + x.ifExchanged(0, 2, 0, 50), 125);
            c.is("the greatest", x.ifExchanged(0, 3, 0, 50), 25);
        });
        edges.of("`to`: 0 to 3", c -> {
            TravelPurses x = new TravelPurses();
            c.is("the least", x.ifExchanged(0, 1, 0, 50), 50);
            c.is("between", x.ifExchanged(0, 0, 1, 50) + x.ifExchanged(0, 0, 2, 50), 83);
            c.is("the greatest", x.ifExchanged(0, 0, 3, 50), 99);
        });
        edges.of(NO_PURSE, c -> {
            TravelPurses x = new TravelPurses();
            c.failsWith(Check.NO_SUCH, x, wallet -> x.ifExchanged(wallet, 0, 1, 1), -1, 4, 1 << 30,
                    LEAST, MOST);
            c.failsWith(Check.NO_SUCH, x, from -> x.ifExchanged(0, from, 0, 1), -1, 4, LEAST, MOST);
            c.failsWith(Check.NO_SUCH, x, to -> x.ifExchanged(0, 0, to, 1), -1, 4, LEAST, MOST);
            c.fails("the same", Check.NO_SUCH, x, () -> x.ifExchanged(0, 4, 4, 1));
            c.fails("none is 0", Check.NO_SUCH, x, () -> x.ifExchanged(0, 1, 4, 1));
        });
        edges.of("`amount`: 1 to 99999", c -> {
            TravelPurses x = Scenes.plain();
            c.is("the least", x.ifExchanged(0, 0, 1, 1), 1);
            c.is("the greatest", x.ifExchanged(0, 0, 1, 99999), 99999);
            c.is("the greatest back", x.ifExchanged(0, 1, 0, 99999), 99999);
        });
        edges.of(WRONG_AMOUNT, c -> {
            TravelPurses x = new TravelPurses();
            c.failsWith(Check.WRONG, x, amount -> x.ifExchanged(0, 0, 1, amount), 0, -1, 100000,
                    LEAST, MOST);
            c.failsWith(Check.WRONG, x, amount -> x.ifExchanged(0, 1, 1, amount), 0, 100000);
        });
    }

    private static void ifExchanged(Edges edges) {
        edges.of("Returns what exchange() would return, whether what is free is enough or not;"
                + " NONE for the reason 1.", c -> {
            int[] amounts = {1, 2, 3, 99, 100, 101, 99999};
            for (int amount : amounts) {
                for (int currency = 1; currency <= 3; currency++) {
                    TravelPurses x = new TravelPurses();
                    int there = x.ifExchanged(2, 0, currency, amount);
                    int back = x.ifExchanged(2, currency, 0, amount);
                    c.is("nothing is changed", x.digest(), new TravelPurses().digest());
                    x.set(2, 50);
                    Scenes.load(x, 2, 400000);
                    c.is("there", x.exchange(2, 0, currency, amount), there);
                    x.exchange(2, 0, currency, 99999);
                    x.exchange(2, 0, currency, 99999);
                    c.is("and back", x.exchange(2, currency, 0, amount), back);
                }
            }
        });
        edges.of("whether what is free is enough or not", c -> {
            TravelPurses x = Scenes.withHome(100);
            c.is("enough", x.ifExchanged(0, 0, 3, 100), 200);
            c.is("too little", x.ifExchanged(0, 0, 3, 101), 202);
            x.hold(0, 0, 100);
            c.is("nothing is free", x.ifExchanged(0, 0, 3, 100), 200);
            c.is("an empty purse", x.ifExchanged(0, 3, 0, 100), 50);
        });
        edges.of("NONE for the reason 1.", c -> {
            TravelPurses x = Scenes.withHome(100);
            for (int from = 0; from <= 3; from++) {
                for (int to = 0; to <= 3; to++) {
                    boolean isPair = from != to && (from == 0 || to == 0);
                    c.is("is it NONE", x.ifExchanged(0, from, to, 50) == NONE ? 1 : 0,
                            isPair ? 0 : 1);
                }
            }
            x.set(1, 100);
            c.is("0 is not NONE", x.ifExchanged(0, 3, 0, 1), 0);
        });
    }

    private static void neededArguments(Edges edges) {
        edges.under("Promise 25: needed");
        edges.of(WALLETS, c -> {
            TravelPurses x = Scenes.plain();
            x.lock(0, 1);
            x.quote(1, 500);
            x.lock(3, 1);
            x.quote(1, 250);
            c.is("the least", x.needed(0, 1, 100), 100);
            c.is("one between them", x.needed(1, 1, 100), 25);
            c.is("the greatest", x.needed(3, 1, 100), 50);
        });
        edges.of("`currency`: 1 to 3", c -> {
            TravelPurses x = Scenes.plain();
            c.is("the least", x.needed(0, 1, 100), 100);
            c.is("between", x.needed(0, 2, 100), 150);
            c.is("the greatest", x.needed(0, 3, 100), 50);
        });
        edges.of("Throws `IndexOutOfBoundsException` if there is no such wallet, or currency is out"
                + " of range", c -> {
            TravelPurses x = new TravelPurses();
            c.failsWith(Check.NO_SUCH, x, wallet -> x.needed(wallet, 1, 1), -1, 4, 1 << 30, LEAST,
                    MOST);
            c.failsWith(Check.NO_SUCH, x, currency -> x.needed(1, currency, 1), 0, -1, 4, LEAST,
                    MOST);
        });
        edges.of("`amount`: 1 to 9999, of this currency", c -> {
            TravelPurses x = Scenes.plain();
            c.is("the least", x.needed(0, 1, 1), 1);
            c.is("the greatest", x.needed(0, 1, 9999), 9999);
        });
        edges.of(WRONG_AMOUNT, c -> {
            TravelPurses x = new TravelPurses();
            c.failsWith(Check.WRONG, x, amount -> x.needed(0, 1, amount), 0, -1, 10000, LEAST,
                    MOST);
        });
    }

    /** What an exchange of so much home money brings, by the words of the document. */
    private static int brings(int home, int rate, int spread) {
        int given = home * 1000 / rate;
        return given - given * spread / 1000;
    }

    private static void leastIsNeeded(Check c, int rate, int spread) {
        TravelPurses x = new TravelPurses();
        x.quote(3, rate);
        x.set(1, spread);
        int home = 1;
        for (int amount = 1; amount <= 9999; amount += amount < 120 ? 1 : 83) {
            while (brings(home, rate, spread) < amount) {
                home++;
            }
            c.is("for " + amount + " at " + rate + ", " + spread, x.needed(2, 3, amount), home);
        }
        c.is("it is not changed", x.count(13), 2);
    }

    private static void needed(Edges edges) {
        String least = "Returns the least amount of home money whose exchange would bring at least"
                + " that, whether there is so much or not.";
        edges.of(least, c -> {
            int[] rates = {100, 101, 499, 500, 999, 1000, 1001, 1500, 1999, 2000};
            int[] spreads = {0, 1, 10, 99, 100};
            for (int rate : rates) {
                for (int spread : spreads) {
                    leastIsNeeded(c, rate, spread);
                }
            }
        });
        edges.of(least, c -> {
            TravelPurses x = new TravelPurses();
            x.set(1, 100);
            x.quote(1, 2000);
            c.is("the most that is ever needed", x.needed(0, 1, 9999), 22218);
            c.is("the most for 1", x.needed(0, 1, 1), 2);
            x.set(1, 0);
            x.quote(1, 100);
            c.is("1 is the least", x.needed(0, 1, 1), 1);
            c.is("1 brings 10", x.needed(0, 1, 10), 1);
            c.is("but not 11", x.needed(0, 1, 11), 2);
            c.is("the least for the most", x.needed(0, 1, 9999), 1000);
        });
        edges.of(least, c -> {
            TravelPurses x = Scenes.withHome(100);
            c.is("as much as there is", x.needed(0, 1, 100), 100);
            c.is("more than there is", x.needed(0, 1, 101), 101);
            c.is("nothing there", x.needed(1, 1, 101), 101);
            x.lock(0, 1);
            x.quote(1, 2000);
            c.is("at the locked rate", x.needed(0, 1, 101), 101);
            x.pass(8);
            c.is("a day after it", x.needed(0, 1, 101), 202);
        });
        edges.of(least, c -> {
            TravelPurses x = Scenes.withDebt(1, 60);
            c.is("what pays debt is brought, too", x.needed(0, 1, 50), 50);
        });
    }

    private static void roomIs(Check c, int tip, int free, int due) {
        TravelPurses x = Scenes.withHome(free);
        x.set(2, tip);
        c.is("room in " + free + " with " + tip, x.room(0, 0), due);
    }

    /** The greatest amount, by the words of the document. */
    private static int greatest(int tip, int free) {
        int amount = 0;
        while (amount < 99999 && amount + 1 + (amount + 1) * tip / 100 <= free) {
            amount++;
        }
        return amount;
    }

    private static void room(Edges edges) {
        edges.under("Promise 26: room");
        edges.of(WALLETS, c -> {
            TravelPurses x = Scenes.plain();
            for (int wallet = 0; wallet <= 3; wallet++) {
                x.load(wallet, 10 + wallet);
            }
            for (int wallet = 0; wallet <= 3; wallet++) {
                c.is("wallet " + wallet, x.room(wallet, 0), 10 + wallet);
            }
        });
        edges.of(CURRENCIES, c -> {
            TravelPurses x = Scenes.withHome(100);
            x.exchange(0, 0, 1, 10);
            x.exchange(0, 0, 2, 30);
            x.exchange(0, 0, 3, 15);
            int[] due = {45, 10, 20, 30};
            for (int currency = 0; currency <= 3; currency++) {
                c.is("currency " + currency, x.room(0, currency), due[currency]);
            }
        });
        edges.of(NO_PURSE, c -> {
            TravelPurses x = Scenes.withHome(10);
            c.failsWith(Check.NO_SUCH, x, wallet -> x.room(wallet, 0), -1, 4, 1 << 30, LEAST, MOST);
            c.failsWith(Check.NO_SUCH, x, currency -> x.room(0, currency), -1, 4, LEAST, MOST);
            c.fails("behind the wallet before", Check.NO_SUCH, x, () -> x.room(-1, 4));
        });
        String greatest = "Returns the greatest amount, 1 to 99999, of a hold for which what is"
                + " free would be enough; 0 if there is none.";
        edges.of(greatest, c -> {
            int[] tips = {0, 1, 20, 33, 49, 50};
            for (int tip : tips) {
                for (int free = 0; free <= 40; free++) {
                    roomIs(c, tip, free, greatest(tip, free));
                }
                int[] frees = {99, 100, 101, 99998, 99999, 100000, 100001, 119997, 119998, 119999};
                for (int free : frees) {
                    roomIs(c, tip, free, greatest(tip, free));
                }
            }
        });
        edges.of(greatest, c -> {
            roomIs(c, 0, 0, 0);
            roomIs(c, 50, 1, 1);
            roomIs(c, 50, 2, 1);
            roomIs(c, 50, 3, 2);
            roomIs(c, 0, 99999, 99999);
            roomIs(c, 0, 99998, 99998);
            roomIs(c, 0, 100000, 99999);
            roomIs(c, 50, 149998, 99999);
            roomIs(c, 50, 149997, 99998);
            roomIs(c, 50, 149999, 99999);
            roomIs(c, 50, 1000000, 99999);
            roomIs(c, 20, 119998, 99999);
            roomIs(c, 20, 119997, 99998);
        });
        edges.of(greatest, c -> {
            TravelPurses x = Scenes.withHolds(8);
            c.is("all is held", x.room(0, 0), 0);
            x.load(0, 30);
            c.is("that there are 8 holds does not matter", x.room(0, 0), 30);
            x.letGo(0);
            c.is("what is free", x.room(0, 0), 41);
            TravelPurses y = Scenes.withDebt(0, 10);
            c.is("with debt", y.room(0, 0), 0);
        });
    }

    private static void whyNotArguments(Edges edges) {
        edges.under("Promise 27: whyNot");
        edges.of(WALLETS, c -> {
            TravelPurses x = Scenes.plain();
            for (int wallet = 0; wallet <= 3; wallet++) {
                x.load(wallet, 10 + wallet);
            }
            for (int wallet = 0; wallet <= 3; wallet++) {
                c.is("enough", x.whyNot(0, wallet, 0, 1, 10 + wallet), 0);
                c.is("too little", x.whyNot(0, wallet, 0, 1, 11 + wallet), 2);
                c.is("enough for a hold", x.whyNot(1, wallet, 0, 1, 10 + wallet), 0);
                c.is("too little for one", x.whyNot(1, wallet, 0, 1, 11 + wallet), 2);
            }
        });
        edges.of(NO_PURSE, c -> {
            TravelPurses x = new TravelPurses();
            for (int i = 0; i <= 2; i++) {
                int what = i;
                c.failsWith(Check.NO_SUCH, x, wallet -> x.whyNot(what, wallet, 0, 1, 1), -1, 4,
                        1 << 30, LEAST, MOST);
                c.failsWith(Check.NO_SUCH, x, currency -> x.whyNot(what, 0, currency, 0, 1), -1, 4,
                        LEAST, MOST);
                c.failsWith(Check.NO_SUCH, x, other -> x.whyNot(what, 0, 0, other, 1), -1, 4,
                        LEAST, MOST);
            }
        });
        edges.of("`amount`: 1 to 99999", c -> {
            TravelPurses x = Scenes.withHome(99999);
            for (int what = 0; what <= 2; what++) {
                c.is("the least", x.whyNot(what, 0, 0, 1, 1), 0);
                c.is("the greatest", x.whyNot(what, 0, 0, 1, 99999), 0);
            }
        });
        edges.of("Throws `IllegalArgumentException` if what or amount is out of range", c -> {
            TravelPurses x = Scenes.withHome(100000);
            c.failsWith(Check.WRONG, x, what -> x.whyNot(what, 0, 0, 1, 1), -1, 3, LEAST, MOST);
            for (int i = 0; i <= 2; i++) {
                int what = i;
                c.failsWith(Check.WRONG, x, amount -> x.whyNot(what, 0, 0, 1, amount), 0, -1,
                        100000, LEAST, MOST);
            }
        });
    }

    private static void whyNotCurrencies(Edges edges) {
        edges.of(CURRENCIES, c -> {
            TravelPurses x = Scenes.withHome(200);
            x.exchange(0, 0, 1, 10);
            x.exchange(0, 0, 2, 30);
            x.exchange(0, 0, 3, 15);
            int[] free = {145, 10, 20, 30};
            for (int i = 0; i <= 3; i++) {
                int other = i == 0 ? 1 : 0;
                c.is("an exchange from " + i, x.whyNot(0, 0, i, other, free[i]), 0);
                c.is("of too much of " + i, x.whyNot(0, 0, i, other, free[i] + 1), 2);
                c.is("a hold of " + i, x.whyNot(1, 0, i, other, free[i]), 0);
                c.is("of too much", x.whyNot(1, 0, i, other, free[i] + 1), 2);
                c.is("closing", x.whyNot(2, 0, i, other, 1), 0);
            }
        });
        edges.of("`other`: 0 to 3", c -> {
            TravelPurses x = Scenes.withHome(200);
            int[] due = {1, 0, 0, 0};
            for (int other = 0; other <= 3; other++) {
                c.is("an exchange to " + other, x.whyNot(0, 0, 0, other, 200), due[other]);
                c.is("a hold", x.whyNot(1, 0, 0, other, 200), 0);
                c.is("closing", x.whyNot(2, 0, 0, other, 200), 0);
            }
        });
    }

    private static void whyNot(Edges edges) {
        edges.of("0: an exchange of the amount from the first currency to the second one", c -> {
            TravelPurses x = Scenes.withHome(100);
            x.exchange(0, 0, 2, 30);
            c.is("from the first one", x.whyNot(0, 0, 0, 2, 70), 0);
            c.is("too much of it", x.whyNot(0, 0, 0, 2, 71), 2);
            c.is("the other way", x.whyNot(0, 0, 2, 0, 20), 0);
            c.is("too much of that", x.whyNot(0, 0, 2, 0, 21), 2);
            c.is("no pair", x.whyNot(0, 0, 2, 3, 99999), 1);
        });
        edges.of("1: a hold of the amount in the first currency (the second one does not matter)",
                c -> {
            TravelPurses x = Scenes.withHome(100);
            x.exchange(0, 0, 2, 30);
            for (int other = 0; other <= 3; other++) {
                c.is("enough", x.whyNot(1, 0, 0, other, 70), 0);
                c.is("too little", x.whyNot(1, 0, 0, other, 71), 2);
                c.is("enough of 2", x.whyNot(1, 0, 2, other, 20), 0);
                c.is("too little of 2", x.whyNot(1, 0, 2, other, 21), 2);
            }
        });
        edges.of("2: closing (currencies and amount do not matter; but all have to be in their"
                + " ranges)", c -> {
            TravelPurses x = Scenes.withHolds(1);
            for (int currency = 0; currency <= 3; currency++) {
                for (int other = 0; other <= 3; other++) {
                    c.is("a hold", x.whyNot(2, 0, currency, other, 1), 4);
                    c.is("another wallet", x.whyNot(2, 1, currency, other, 99999), 0);
                }
            }
            c.fails("currency 4", Check.NO_SUCH, x, () -> x.whyNot(2, 0, 4, 0, 1));
            c.fails("other 4", Check.NO_SUCH, x, () -> x.whyNot(2, 0, 0, 4, 1));
            c.fails("amount 0", Check.WRONG, x, () -> x.whyNot(2, 0, 0, 0, 0));
            c.fails("amount 100000", Check.WRONG, x, () -> x.whyNot(2, 0, 0, 0, 100000));
        });
        edges.of("Returns the reason, 0 if it would not be refused.", c -> {
            TravelPurses x = Scenes.withHolds(8);
            x.load(1, 10);
            c.is("an exchange", x.whyNot(0, 1, 0, 1, 10), 0);
            c.is("1", x.whyNot(0, 1, 1, 1, 10), 1);
            c.is("2", x.whyNot(0, 1, 0, 1, 11), 2);
            c.is("3", x.whyNot(1, 1, 0, 1, 10), 3);
            c.is("4", x.whyNot(2, 0, 0, 1, 10), 4);
            c.is("closing", x.whyNot(2, 1, 0, 1, 10), 0);
            x.pay(0, 11);
            c.is("a hold", x.whyNot(1, 1, 0, 1, 10), 0);
            x.pass(30);
            x.dispute(0);
            c.is("5", x.whyNot(2, 0, 0, 1, 10), 5);
            x.exchange(0, 0, 1, 116);
            x.decide(0, false);
            c.is("6", x.whyNot(2, 0, 0, 1, 10), 6);
        });
    }

    private static void ifClosed(Edges edges) {
        edges.under("Promise 28: ifClosed");
        edges.of(WALLETS, c -> {
            TravelPurses x = new TravelPurses();
            for (int wallet = 0; wallet <= 3; wallet++) {
                x.load(wallet, 10 + wallet);
            }
            for (int wallet = 0; wallet <= 3; wallet++) {
                c.is("wallet " + wallet, x.ifClosed(wallet), 10 + wallet);
            }
        });
        edges.of(NO_WALLET, c -> {
            TravelPurses x = Scenes.withHome(10);
            c.failsWith(Check.NO_SUCH, x, wallet -> x.ifClosed(wallet), -1, 4, 1 << 30, LEAST,
                    MOST);
        });
        edges.of("Returns what close() would return; NONE if there is a reason against it.", c -> {
            TravelPurses x = new TravelPurses();
            c.is("an empty wallet", x.ifClosed(0), 0);
            Scenes.load(x, 0, 700000);
            for (int i = 0; i < 6; i++) {
                x.exchange(0, 0, 1 + i % 3, 99999);
            }
            x.lock(0, 2);
            x.quote(2, 100);
            x.quote(3, 2000);
            x.set(1, 77);
            long before = x.digest();
            int due = x.ifClosed(0);
            c.is("nothing is changed", x.digest(), before);
            c.is("what close() returns", x.close(0), due);
            c.is("nothing is left", x.ifClosed(0), 0);
        });
        edges.of("Returns what close() would return; NONE if there is a reason against it.", c -> {
            TravelPurses x = Scenes.with(3, 1);
            x.set(1, 0);
            x.exchange(0, 3, 0, 1);
            c.is("1 of the currency 3 gives nothing", x.ifClosed(0), 0);
            TravelPurses y = Scenes.with(1, 99);
            y.exchange(0, 1, 0, 1);
            y.set(1, 10);
            y.load(0, 1);
            c.is("the spread of each exchange is rounded down", y.ifClosed(0), 100);
        });
        edges.of("NONE if there is a reason against it.", c -> {
            TravelPurses x = Scenes.withHolds(1);
            c.is("a hold", x.ifClosed(0), NONE);
            c.is("another wallet", x.ifClosed(1), 0);
            x.pay(0, 11);
            c.is("a plain payment is none", x.ifClosed(0), 0);
            x.dispute(0);
            c.is("a dispute", x.ifClosed(0), NONE);
            x.exchange(0, 0, 1, 11);
            x.decide(0, false);
            c.is("a debt", x.ifClosed(0), NONE);
            x.load(0, 11);
            c.is("none", x.ifClosed(0), 11);
        });
    }

    private static void heldShare(Edges edges) {
        edges.under("Promise 29: heldShare");
        edges.of(WALLETS, c -> {
            TravelPurses x = Scenes.plain();
            for (int wallet = 0; wallet <= 3; wallet++) {
                x.load(wallet, 10);
                x.hold(wallet, 0, 1 + wallet);
            }
            for (int wallet = 0; wallet <= 3; wallet++) {
                c.isDouble("wallet " + wallet, x.heldShare(wallet, 0), (1 + wallet) / 10.0);
            }
        });
        edges.of(CURRENCIES, c -> {
            TravelPurses x = Scenes.withHome(100);
            x.exchange(0, 0, 1, 10);
            x.exchange(0, 0, 2, 30);
            x.exchange(0, 0, 3, 15);
            double[] balances = {45, 10, 20, 30};
            for (int currency = 0; currency <= 3; currency++) {
                x.hold(0, currency, 7);
                c.isDouble("currency " + currency, x.heldShare(0, currency),
                        7 / balances[currency]);
            }
        });
        edges.of(NO_PURSE, c -> {
            TravelPurses x = Scenes.withHome(10);
            c.failsWith(Check.NO_SUCH, x, wallet -> (long) x.heldShare(wallet, 0), -1, 4, 1 << 30,
                    LEAST, MOST);
            c.failsWith(Check.NO_SUCH, x, currency -> (long) x.heldShare(0, currency), -1, 4, LEAST,
                    MOST);
            c.fails("behind the wallet before", Check.NO_SUCH, x, () -> (long) x.heldShare(-1, 4));
        });
        edges.of("Returns what its holds keep, as a double, divided by its balance; 0.0 if that is"
                + " 0.", c -> {
            TravelPurses x = Scenes.withHome(3);
            c.isDouble("nothing is held", x.heldShare(0, 0), 0.0);
            x.hold(0, 0, 1);
            c.isDouble("a third", x.heldShare(0, 0), 1.0 / 3.0);
            x.hold(0, 0, 1);
            c.isDouble("two holds", x.heldShare(0, 0), 2.0 / 3.0);
            x.hold(0, 0, 1);
            c.isDouble("all is held", x.heldShare(0, 0), 1.0);
        });
        edges.of("Returns what its holds keep, as a double, divided by its balance; 0.0 if that is"
                + " 0.", c -> {
            TravelPurses x = Scenes.withHome(1000000);
            x.set(2, 50);
            x.hold(0, 0, 99999);
            c.isDouble("with the room", x.heldShare(0, 0), 149998.0 / 1000000.0);
            TravelPurses y = Scenes.withHome(1000000);
            y.hold(0, 0, 1);
            c.isDouble("a small one", y.heldShare(0, 0), 0.000001);
        });
        edges.of("0.0 if that is 0.", c -> {
            TravelPurses x = Scenes.withDebt(0, 10);
            c.isDouble("an empty purse", x.heldShare(1, 0), 0.0);
            c.isDouble("one with debt", x.heldShare(0, 0), 0.0);
            c.is("it is not -0.0", Double.doubleToLongBits(x.heldShare(0, 0)), 0);
        });
    }
}
