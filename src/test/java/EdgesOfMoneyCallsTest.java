import java.io.IOException;

/** Sentences of the promises 1 to 5: a new object, load, quote, lock, exchange. */
public final class EdgesOfMoneyCallsTest {
    private static final int LEAST = Integer.MIN_VALUE;
    private static final int MOST = Integer.MAX_VALUE;
    private static final String WALLETS = "`wallet`: 0 to 3";
    private static final String NO_WALLET = "Throws `IndexOutOfBoundsException` if there is no such"
            + " wallet";
    private static final String NO_PURSE = "Throws `IndexOutOfBoundsException` if there is no such"
            + " wallet or currency";
    private static final String WRONG_AMOUNT = "Throws `IllegalArgumentException` if amount is out"
            + " of range";

    private EdgesOfMoneyCallsTest() {
    }

    public static void main(String[] args) throws IOException {
        Edges edges = new Edges("EdgesOfMoneyCallsTest");
        newObject(edges);
        load(edges);
        loadAboveBound(edges);
        quote(edges);
        lock(edges);
        exchange(edges);
        exchangeRefused(edges);
        edges.end();
    }

    private static void newObject(Edges edges) {
        edges.under("Promise 1: A new object");
        edges.of("Creates wallets with empty purses, on the day 0, with an empty buffer.", c -> {
            TravelPurses x = new TravelPurses();
            for (int purse = 0; purse < 16; purse++) {
                for (int what = 0; what <= 7; what++) {
                    int due = what == 5 ? -1 : 0;
                    if (what != 4) {
                        c.is("purse " + purse, x.purse(purse / 4, purse % 4, what), due);
                    }
                }
                c.is("room", x.room(purse / 4, purse % 4), 0);
                c.isDouble("share", x.heldShare(purse / 4, purse % 4), 0.0);
            }
            c.is("day", x.count(0), 0);
            c.is("holds, payments, disputes", x.count(1) + x.count(2) + x.count(3), 0);
            for (int what = 4; what <= 8; what++) {
                c.is("nothing is counted yet", x.count(what), 0);
            }
            c.is("no debt was paid", x.count(12), 0);
            c.is("no saved state", x.count(13), 0);
            c.is("the buffer has no error", x.firstError(), 0);
            c.is("the buffer", x.clearBuffer(), 0);
        });
        edges.of("Creates wallets with empty purses, on the day 0, with an empty buffer.", c -> {
            TravelPurses first = new TravelPurses();
            first.load(0, 5);
            first.append('l');
            TravelPurses second = new TravelPurses();
            first.quote(1, 700);
            first.set(0, 0);
            c.is("objects have nothing in common", second.digest(), new TravelPurses().digest());
            c.is("nor the buffer", second.clearBuffer(), 0);
            c.is("the first one's own", first.clearBuffer(), 1);
        });
    }

    private static void load(Edges edges) {
        edges.under("Promise 2: load");
        edges.of("Loads home money. Undoable.", c -> {
            TravelPurses x = new TravelPurses();
            x.load(1, 500);
            c.is("home money", x.purse(1, 0, 0), 500);
            for (int currency = 1; currency <= 3; currency++) {
                c.is("no other money", x.purse(1, currency, 0), 0);
            }
            c.is("undo", x.undo(), 0);
            c.is("nothing", x.purse(1, 0, 0) + x.count(4), 0);
        });
        edges.of(WALLETS, c -> {
            TravelPurses x = new TravelPurses();
            for (int wallet = 0; wallet <= 3; wallet++) {
                c.is("wallet " + wallet, x.load(wallet, 10 + wallet), 10 + wallet);
            }
        });
        edges.of(NO_WALLET, c -> {
            TravelPurses x = new TravelPurses();
            c.failsWith(Check.NO_SUCH, x, wallet -> x.load(wallet, 1), -1, 4, 1 << 30, LEAST, MOST);
        });
        edges.of("`amount`: 1 to 99999", c -> {
            TravelPurses x = new TravelPurses();
            c.is("the least", x.load(0, 1), 1);
            c.is("the greatest", x.load(0, 99999), 100000);
        });
        edges.of(WRONG_AMOUNT, c -> {
            TravelPurses x = new TravelPurses();
            x.load(0, 5);
            c.failsWith(Check.WRONG, x, amount -> x.load(0, amount), 0, -1, 100000, LEAST, MOST);
        });
        edges.of("Returns the balance of home money then.", c -> {
            TravelPurses x = Scenes.withDebt(0, 10);
            c.is("all of it pays debt", x.load(0, 9), 0);
            c.is("the last of the debt", x.load(0, 1), 0);
            c.is("no debt any more", x.load(0, 1), 1);
            x.hold(0, 0, 1);
            c.is("also what is held", x.load(0, 1), 2);
        });
    }

    private static void loadAboveBound(Edges edges) {
        String sentence = "Throws `IllegalStateException` if the balance (ahead of it) and the"
                + " whole amount are above 1000000 together";
        edges.of(sentence, c -> {
            TravelPurses x = Scenes.withHome(999999);
            c.fails("2 more", Check.REFUSED, x, () -> x.load(0, 2));
            c.is("1 more", x.load(0, 1), 1000000);
            c.fails("and 1 more", Check.REFUSED, x, () -> x.load(0, 1));
            c.is("another wallet", x.load(1, 99999), 99999);
        });
        edges.of(sentence, c -> {
            TravelPurses x = Scenes.withHome(900002);
            c.fails("the greatest amount", Check.REFUSED, x, () -> x.load(0, 99999));
            c.is("to the bound", x.load(0, 99998), 1000000);
        });
        edges.of(sentence, c -> {
            TravelPurses x = Scenes.withHome(1000000);
            x.exchange(0, 0, 1, 10000);
            Scenes.load(x, 0, 10000);
            x.exchange(0, 1, 0, 1);
            c.is("an exchange may bring more", x.purse(0, 0, 0), 1000001);
            c.fails("but no load", Check.REFUSED, x, () -> x.load(0, 1));
            c.fails("nor the greatest one", Check.REFUSED, x, () -> x.load(0, 99999));
            x.exchange(0, 0, 1, 2);
            c.is("when there is room again", x.load(0, 1), 1000000);
        });
        edges.of(sentence, c -> {
            TravelPurses x = Scenes.withHome(900002);
            x.hold(0, 0, 99999);
            x.exchange(0, 0, 1, 2);
            c.is("what is held counts", x.load(0, 99999), 999999);
            c.fails("so that no more has room", Check.REFUSED, x, () -> x.load(0, 2));
        });
        edges.of(sentence, EdgesOfMoneyCallsTest::debtDoesNotMakeRoom);
    }

    /** All but the debt is held, so that there is debt beside a balance. */
    private static void debtDoesNotMakeRoom(Check c) {
        TravelPurses x = Scenes.withHome(900102);
        x.hold(0, 0, 100);
        x.pay(0, 100);
        x.dispute(0);
        x.exchange(0, 0, 1, 100);
        x.set(2, 50);
        for (int i = 0; i < 6; i++) {
            x.hold(0, 0, 99999);
        }
        x.set(2, 0);
        x.hold(0, 0, x.purse(0, 0, 2));
        c.is("debt", x.decide(0, false), 100);
        c.is("balance", x.purse(0, 0, 0), 900002);
        c.fails("the whole amount counts", Check.REFUSED, x, () -> x.load(0, 99999));
        c.is("to the bound, less the debt", x.load(0, 99998), 999900);
        c.is("loaded with what paid the debt", x.count(4), 900102 + 99998);
        c.is("and now the rest", x.load(0, 100), 1000000);
    }

    private static void quote(Edges edges) {
        edges.under("Promise 3: quote");
        edges.of("Changes a market rate. Undoable.", c -> {
            TravelPurses x = new TravelPurses();
            x.quote(2, 700);
            c.is("its rate", x.count(10), 700);
            c.is("the others", x.count(9) + x.count(11), 1500);
            x.undo();
            c.is("undone", x.count(10), 1500);
        });
        edges.of("`currency`: 1 to 3", c -> {
            TravelPurses x = new TravelPurses();
            c.is("the least", x.quote(1, 111), 1000);
            c.is("the greatest", x.quote(3, 333), 500);
            c.is("they are changed", x.count(9) + x.count(11), 444);
        });
        edges.of("Throws `IndexOutOfBoundsException` if currency is out of range", c -> {
            TravelPurses x = new TravelPurses();
            c.failsWith(Check.NO_SUCH, x, currency -> x.quote(currency, 500), 0, -1, 4, LEAST,
                    MOST);
        });
        edges.of("`rate`: 100 to 2000", c -> {
            TravelPurses x = new TravelPurses();
            x.quote(1, 100);
            c.is("the least", x.ifExchanged(0, 0, 1, 100), 990);
            c.is("it is returned", x.quote(1, 2000), 100);
            c.is("the greatest", x.ifExchanged(0, 0, 1, 100), 50);
            c.is("it is the market rate", x.count(9), 2000);
        });
        edges.of("Throws `IllegalArgumentException` if rate is out of range", c -> {
            TravelPurses x = new TravelPurses();
            c.failsWith(Check.WRONG, x, rate -> x.quote(3, rate), 99, 2001, 0, -1, LEAST, MOST);
        });
        edges.of("Returns the previous rate.", c -> {
            TravelPurses x = new TravelPurses();
            x.lock(0, 3);
            c.is("at first", x.quote(3, 501), 500);
            c.is("then", x.quote(3, 502), 501);
            c.is("the same one", x.quote(3, 502), 502);
            c.is("of a currency", x.quote(2, 502), 1500);
        });
    }

    private static void lock(Edges edges) {
        edges.under("Promise 4: lock");
        edges.of("Locks the rate of a currency for a wallet. Undoable.", c -> {
            TravelPurses x = new TravelPurses();
            x.lock(0, 1);
            x.quote(1, 700);
            x.lock(0, 1);
            c.is("the rate of the second one", x.purse(0, 1, 4), 700);
            c.is("undo", x.undo(), 2);
            c.is("the first one is back", x.purse(0, 1, 4), 1000);
        });
        edges.of(WALLETS, c -> {
            TravelPurses x = new TravelPurses();
            for (int wallet = 0; wallet <= 3; wallet++) {
                c.is("wallet " + wallet, x.lock(wallet, 1), 7);
                c.is("it is locked", x.purse(wallet, 1, 5), 7);
                if (wallet < 3) {
                    c.is("the next one is not", x.purse(wallet + 1, 1, 5), -1);
                }
            }
        });
        edges.of("`currency`: 1 to 3", c -> {
            TravelPurses x = new TravelPurses();
            c.is("the least", x.lock(0, 1), 7);
            c.is("the greatest", x.lock(0, 3), 7);
            c.is("between them none is locked", x.purse(0, 2, 5), -1);
        });
        edges.of("Throws `IndexOutOfBoundsException` if there is no such wallet, or currency is out"
                + " of range", c -> {
            TravelPurses x = new TravelPurses();
            c.failsWith(Check.NO_SUCH, x, wallet -> x.lock(wallet, 1), -1, 4, 1 << 30, LEAST, MOST);
            c.failsWith(Check.NO_SUCH, x, currency -> x.lock(1, currency), 0, -1, 4, LEAST, MOST);
        });
        edges.of("Returns the last day on which it counts.", c -> {
            TravelPurses x = Scenes.onDay(5000);
            c.is("at first, on the last day", x.lock(0, 1), 5007);
            x.set(0, 60);
            c.is("the most", x.lock(0, 1), 5060);
            x.set(0, 0);
            c.is("the least", x.lock(0, 1), 5000);
            TravelPurses y = new TravelPurses();
            y.set(0, 0);
            c.is("on the day 0", y.lock(0, 1), 0);
            c.is("it counts", y.purse(0, 1, 5), 0);
            y.set(0, 60);
            c.is("by the setting when it was made", y.purse(0, 1, 5), 0);
        });
    }

    private static void exchange(Edges edges) {
        edges.under("Promise 5: exchange");
        edges.of("Exchanges money. Undoable.", c -> {
            TravelPurses x = Scenes.withHome(100);
            x.exchange(0, 0, 3, 40);
            c.is("out of the one purse", x.purse(0, 0, 0), 60);
            c.is("into the other one", x.purse(0, 3, 0), 80);
            x.undo();
            c.is("undone", x.purse(0, 0, 0) + x.purse(0, 3, 0), 100);
        });
        edges.of(WALLETS, c -> {
            TravelPurses x = new TravelPurses();
            for (int wallet = 0; wallet <= 3; wallet++) {
                x.load(wallet, 10);
                c.is("wallet " + wallet, x.exchange(wallet, 0, 1, 1 + wallet), 1 + wallet);
                c.is("its home money", x.purse(wallet, 0, 0), 9 - wallet);
            }
        });
        edges.of("`from`: the currency from which, 0 to 3", c -> {
            TravelPurses x = Scenes.withHome(100);
            c.is("the least", x.exchange(0, 0, 3, 50), 100);
            c.is("the greatest", x.exchange(0, 3, 0, 100), 50);
        });
        edges.of("`to`: the currency to which, 0 to 3", c -> {
            TravelPurses x = Scenes.withHome(300);
            for (int to = 1; to <= 3; to++) {
                c.is("there", x.exchange(0, 0, to, 60), to == 1 ? 60 : to == 2 ? 40 : 120);
                c.is("and back", x.exchange(0, to, 0, to == 1 ? 60 : to == 2 ? 40 : 120), 60);
            }
        });
        edges.of(NO_PURSE, c -> {
            TravelPurses x = Scenes.withHome(100);
            c.failsWith(Check.NO_SUCH, x, wallet -> x.exchange(wallet, 0, 1, 1), -1, 4, 1 << 30,
                    LEAST, MOST);
            c.failsWith(Check.NO_SUCH, x, from -> x.exchange(0, from, 0, 1), -1, 4, LEAST, MOST);
            c.failsWith(Check.NO_SUCH, x, to -> x.exchange(0, 0, to, 1), -1, 4, LEAST, MOST);
            c.fails("both", Check.NO_SUCH, x, () -> x.exchange(0, 4, 4, 1));
            c.fails("a purse of the wallet behind", Check.NO_SUCH, x,
                    () -> x.exchange(-1, 4, 1, 1));
        });
        edges.of("`amount`: 1 to 99999, of the first currency", c -> {
            TravelPurses x = Scenes.withHome(100001);
            c.is("the greatest", x.exchange(0, 0, 1, 99999), 99999);
            c.is("the least", x.exchange(0, 0, 1, 1), 1);
            c.is("of the first currency", x.purse(0, 0, 0), 1);
            c.is("and back", x.exchange(0, 1, 0, 99999), 99999);
        });
        edges.of(WRONG_AMOUNT, c -> {
            TravelPurses x = Scenes.withHome(200000);
            c.failsWith(Check.WRONG, x, amount -> x.exchange(0, 0, 1, amount), 0, -1, 100000, LEAST,
                    MOST);
        });
        edges.of("Returns what comes into the other purse (with what pays its debt).", c -> {
            TravelPurses x = Scenes.withDebt(0, 100);
            c.is("all of it pays debt", x.exchange(0, 1, 0, 30), 30);
            c.is("a part of it does", x.exchange(0, 1, 0, 70) + x.purse(0, 0, 0), 70);
            TravelPurses y = Scenes.withDebt(3, 100);
            y.load(0, 100);
            y.set(1, 100);
            c.is("less the spread", y.exchange(0, 0, 3, 60), 108);
            c.is("what the debt left", y.purse(0, 3, 0), 8);
        });
        edges.of("Returns what comes into the other purse (with what pays its debt).", c -> {
            TravelPurses x = Scenes.withHome(3);
            c.is("too little to give anything", x.exchange(0, 0, 2, 1), 0);
            c.is("but it is taken", x.purse(0, 0, 0), 2);
            c.is("and is an exchange", x.count(6), 1);
        });
    }

    private static void exchangeRefused(Edges edges) {
        String sentence = "Throws `IllegalStateException` if there is a reason against it";
        edges.of(sentence, c -> {
            TravelPurses x = Scenes.withHome(100);
            x.exchange(0, 0, 1, 50);
            for (int from = 0; from <= 3; from++) {
                int same = from;
                c.fails("the same", Check.REFUSED, x, () -> x.exchange(0, same, same, 1));
                for (int to = 1; to <= 3; to++) {
                    int other = to;
                    if (same > 0) {
                        c.fails("none is 0", Check.REFUSED, x,
                                () -> x.exchange(0, same, other, 1));
                    }
                }
            }
        });
        edges.of(sentence, c -> {
            TravelPurses x = Scenes.withHome(100);
            c.fails("more than there is", Check.REFUSED, x, () -> x.exchange(0, 0, 1, 101));
            x.hold(0, 0, 30);
            c.fails("more than is free", Check.REFUSED, x, () -> x.exchange(0, 0, 1, 71));
            c.is("all that is free", x.exchange(0, 0, 1, 70), 70);
            c.fails("nothing is free", Check.REFUSED, x, () -> x.exchange(0, 0, 1, 1));
            c.fails("more of the other", Check.REFUSED, x, () -> x.exchange(0, 1, 0, 71));
            x.hold(0, 1, 60);
            c.fails("more than is free of the other", Check.REFUSED, x,
                    () -> x.exchange(0, 1, 0, 11));
            c.is("all that is free of the other", x.exchange(0, 1, 0, 10), 10);
            c.fails("an empty purse", Check.REFUSED, x, () -> x.exchange(0, 3, 0, 1));
            c.fails("money of another wallet", Check.REFUSED, x, () -> x.exchange(1, 0, 1, 1));
        });
        edges.of(sentence, c -> {
            TravelPurses x = Scenes.withDebt(0, 50);
            x.hold(0, 1, 10);
            for (int i = 0; i < 7; i++) {
                x.hold(0, 1, 1);
            }
            c.is("neither holds nor debts are one", x.exchange(0, 1, 0, 33), 33);
        });
    }
}
