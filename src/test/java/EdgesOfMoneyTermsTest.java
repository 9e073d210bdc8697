import java.io.IOException;

/** Sentences of "Terms": wallets, purses, rates, exchanges; and of "What it is". */
public final class EdgesOfMoneyTermsTest {
    private static final int NONE = TravelPurses.NONE;

    private EdgesOfMoneyTermsTest() {
    }

    public static void main(String[] args) throws IOException {
        Edges edges = new Edges("EdgesOfMoneyTermsTest");
        edges.under("What it is");
        edges.of("An object is used for at most 512 calls after it has been made",
                EdgesOfMoneyTermsTest::allCalls);
        edges.under("Terms");
        purses(edges);
        debts(edges);
        rates(edges);
        exchanges(edges);
        spreads(edges);
        edges.end();
    }

    private static void allCalls(Check c) {
        TravelPurses x = new TravelPurses();
        for (int i = 1; i <= 508; i++) {
            x.load(i % 4, 7);
        }
        c.is("the 509th call", x.load(1, 1), 890);
        c.is("the 510th call", x.count(4), 3557);
        c.is("the 511th call", x.undo(), 5);
        c.is("the 512th call", x.purse(1, 0, 0), 889);
    }

    private static void purses(Edges edges) {
        edges.of("All numbers are integers; divisions are rounded down.", c -> {
            TravelPurses x = new TravelPurses();
            c.is("199.999 of 0.99", x.ifExchanged(0, 3, 0, 399) + x.ifExchanged(0, 0, 2, 299),
                    198 + 198);
            Scenes.load(x, 0, 1000);
            x.hold(0, 0, 9);
            c.is("9 and 1.8", x.held(0, 3), 10);
        });
        edges.of("There are 4 wallets, numbered from 0", c -> {
            TravelPurses x = new TravelPurses();
            c.is("the first one", x.load(0, 5), 5);
            c.is("the last one", x.load(3, 7), 7);
            c.failsWith(Check.NO_SUCH, x, wallet -> x.load(wallet, 5), -1, 4, 1 << 30,
                    Integer.MIN_VALUE, Integer.MAX_VALUE);
        });
        edges.of("each has a purse for each of the currencies 0 to 3, with a balance, a debt, and"
                + " holds.", EdgesOfMoneyTermsTest::sixteenPurses);
        edges.of("each has a purse for each of the currencies 0 to 3, with a balance, a debt, and"
                + " holds.", c -> {
            TravelPurses x = new TravelPurses();
            c.failsWith(Check.NO_SUCH, x, currency -> x.purse(1, currency, 0), -1, 4,
                    Integer.MIN_VALUE, Integer.MAX_VALUE);
        });
        edges.of("At first all balances and debts are 0.", c -> {
            TravelPurses x = new TravelPurses();
            for (int purse = 0; purse < 16; purse++) {
                c.is("balance of " + purse, x.purse(purse / 4, purse % 4, 0), 0);
                c.is("debt of " + purse, x.purse(purse / 4, purse % 4, 3), 0);
            }
        });
        edges.of("What is free of a purse is its balance less what its holds keep", c -> {
            TravelPurses x = Scenes.withHome(100);
            x.load(1, 100);
            x.exchange(0, 0, 1, 30);
            x.hold(0, 0, 20);
            x.hold(0, 0, 7);
            c.is("less both holds", x.purse(0, 0, 2), 43);
            c.is("another purse of the wallet", x.purse(0, 1, 2), 30);
            c.is("another wallet", x.purse(1, 0, 2), 100);
            x.letGo(0);
            c.is("when one is gone", x.purse(0, 0, 2), 63);
        });
        edges.of("it is never below 0.", c -> {
            TravelPurses x = Scenes.withHome(150);
            x.hold(0, 0, 100);
            x.pay(0, 100);
            x.dispute(0);
            x.hold(0, 0, 150);
            c.is("all is held", x.purse(0, 0, 2), 0);
            x.decide(0, false);
            c.is("after a lost dispute", x.purse(0, 0, 2), 0);
            c.is("its balance", x.purse(0, 0, 0), 150);
            c.is("its debt", x.purse(0, 0, 3), 100);
            c.fails("hold of 1", Check.REFUSED, x, () -> x.hold(0, 0, 1));
            c.fails("exchange of 1", Check.REFUSED, x, () -> x.exchange(0, 0, 1, 1));
        });
    }

    private static void sixteenPurses(Check c) {
        TravelPurses x = Scenes.plain();
        for (int wallet = 0; wallet < 4; wallet++) {
            x.load(wallet, 10000 + wallet);
            x.exchange(wallet, 0, 1, 1000 + wallet);
            x.exchange(wallet, 0, 2, 1500);
            x.exchange(wallet, 0, 3, 50 + wallet);
            x.hold(wallet, wallet, 20 + wallet);
            x.hold(wallet, 3 - wallet, 30 + wallet);
        }
        for (int wallet = 0; wallet < 4; wallet++) {
            int[] balances = {7450 - wallet, 1000 + wallet, 1000, 100 + 2 * wallet};
            for (int currency = 0; currency < 4; currency++) {
                int kept = currency == wallet ? 20 + wallet : currency == 3 - wallet ? 30 + wallet
                        : 0;
                c.is("balance of " + wallet + currency, x.purse(wallet, currency, 0),
                        balances[currency]);
                c.is("kept of " + wallet + currency, x.purse(wallet, currency, 1), kept);
                c.is("debt of " + wallet + currency, x.purse(wallet, currency, 3), 0);
            }
        }
    }

    private static void debts(Edges edges) {
        String sentence = "When money comes into a purse, as much of its debt as there is, but at"
                + " most the money, is paid out of it at once, and the rest comes to the balance.";
        edges.of(sentence, c -> {
            int[] loads = {1, 99, 100, 101, 99999};
            int[] balances = {0, 0, 0, 1, 99899};
            int[] debts = {99, 1, 0, 0, 0};
            for (int i = 0; i < loads.length; i++) {
                TravelPurses x = Scenes.withDebt(0, 100);
                c.is("load of " + loads[i], x.load(0, loads[i]), balances[i]);
                c.is("its debt", x.purse(0, 0, 3), debts[i]);
                c.is("debt that was paid", x.count(12), 100 - debts[i]);
            }
        });
        edges.of(sentence, c -> {
            int[] amounts = {2, 98, 100, 102};
            int[] balances = {0, 0, 0, 2};
            int[] debts = {98, 2, 0, 0};
            for (int i = 0; i < amounts.length; i++) {
                TravelPurses x = Scenes.withDebt(3, 100);
                x.load(0, 1000);
                c.is("exchange", x.exchange(0, 0, 3, amounts[i] / 2), amounts[i]);
                c.is("its balance", x.purse(0, 3, 0), balances[i]);
                c.is("its debt", x.purse(0, 3, 3), debts[i]);
                c.is("debt that was paid", x.count(12), 100 - debts[i]);
            }
        });
        edges.of(sentence, EdgesOfMoneyTermsTest::creditPaysDebt);
        edges.of(sentence, c -> {
            TravelPurses x = Scenes.withDebt(0, 100);
            x.load(1, 500);
            x.exchange(0, 1, 0, 1);
            c.is("only of this purse", x.purse(0, 0, 3), 99);
            c.is("money of another wallet pays none", x.count(12), 1);
            x.letGo(x.hold(1, 0, 500));
            c.is("a hold that is gone brings no money", x.count(12), 1);
        });
    }

    private static void creditPaysDebt(Check c) {
        int[] credits = {1, 99, 100, 101};
        int[] balances = {0, 0, 0, 1};
        int[] debts = {99, 1, 0, 0};
        for (int i = 0; i < credits.length; i++) {
            TravelPurses x = Scenes.withHome(100 + credits[i]);
            x.hold(0, 0, 100);
            x.hold(0, 0, credits[i]);
            x.pay(0, 100);
            x.pay(0, credits[i]);
            x.dispute(0);
            x.exchange(0, 0, 1, 100);
            x.decide(0, false);
            c.is("credit of " + credits[i], x.dispute(1), balances[i]);
            c.is("its debt", x.purse(0, 0, 3), debts[i]);
            c.is("debt that was paid", x.count(12), 100 - debts[i]);
        }
    }

    private static void rates(Edges edges) {
        edges.of("There is a number of the day, at first 0.", c ->
                c.is("day", new TravelPurses().count(0), 0));
        edges.of("Each currency 1 to 3 has a market rate: what 1000 of it cost in home money; at"
                + " first 1000, 1500 and 500.", c -> {
            TravelPurses x = new TravelPurses();
            int[] rates = {1000, 1500, 500};
            for (int currency = 1; currency <= 3; currency++) {
                c.is("market rate of " + currency, x.count(8 + currency), rates[currency - 1]);
                c.is("what 1000 cost", x.ifExchanged(1, currency, 0, 1000)
                        + rates[currency - 1] / 100, rates[currency - 1]);
            }
        });
        String through = "the market rate of this day counts for it through the day and setting 0"
                + " more days";
        edges.of(through, c -> {
            int[] days = {0, 1, 7, 59, 60};
            for (int more : days) {
                TravelPurses x = Scenes.onDay(3);
                x.set(0, more);
                c.is("last day", x.lock(2, 1), 3 + more);
                x.quote(1, 600);
                Scenes.pass(x, more);
                c.is("the rate on the last day", x.purse(2, 1, 4), 1000);
                c.is("an exchange on the last day", x.ifExchanged(2, 1, 0, 50), 50);
                c.is("last day, told on it", x.purse(2, 1, 5), 3 + more);
                x.pass(1);
                c.is("the rate a day later", x.purse(2, 1, 4), 600);
                c.is("an exchange a day later", x.ifExchanged(2, 1, 0, 50), 30);
                c.is("no lock a day later", x.purse(2, 1, 5), NONE);
            }
        });
        edges.of("(a lock takes the place of one that there is)", c -> {
            TravelPurses x = new TravelPurses();
            x.lock(0, 1);
            x.quote(1, 800);
            x.set(0, 0);
            c.is("a shorter one", x.lock(0, 1), 0);
            c.is("its rate", x.purse(0, 1, 4), 800);
            x.quote(1, 900);
            x.pass(1);
            c.is("the longer one does not come back", x.purse(0, 1, 4), 900);
            x.set(0, 2);
            c.is("a longer one", x.lock(0, 1), 3);
            c.is("another wallet has none", x.purse(1, 1, 5), NONE);
            c.is("another currency has none", x.purse(0, 2, 5), NONE);
        });
        edges.of("The rate of a wallet for a currency is the locked one, as long as it counts,"
                + " otherwise the market rate.", c -> {
            TravelPurses x = new TravelPurses();
            x.lock(0, 1);
            x.quote(1, 2000);
            c.is("locked", x.purse(0, 1, 4), 1000);
            c.is("of a wallet without a lock", x.purse(1, 1, 4), 2000);
            c.is("market rate", x.count(9), 2000);
            x.quote(2, 100);
            c.is("of a currency without a lock", x.purse(0, 2, 4), 100);
            x.lock(1, 1);
            x.quote(1, 500);
            c.is("each wallet has its own", x.purse(0, 1, 4) + x.purse(1, 1, 4), 3000);
        });
    }

    /** What an exchange gives without a spread. */
    private static int given(int rate, int from, int to, int amount) {
        TravelPurses x = Scenes.plain();
        x.quote(1, rate);
        return x.ifExchanged(0, from, to, amount);
    }

    private static void exchanges(Edges edges) {
        edges.of("An exchange goes from home money to another currency, or back.", c -> {
            TravelPurses x = Scenes.withHome(3000);
            for (int currency = 1; currency <= 3; currency++) {
                c.is("there", x.whyNot(0, 0, 0, currency, 100), 0);
                x.exchange(0, 0, currency, 300);
                c.is("and back", x.whyNot(0, 0, currency, 0, 200), 0);
                for (int other = 1; other <= 3; other++) {
                    c.is("past home money", x.whyNot(0, 0, currency, other, 1), 1);
                }
            }
        });
        edges.of("an amount of home money gives amount * 1000 / r of the other currency", c -> {
            int[] rates = {2000, 2000, 2000, 2000, 1500, 1500, 1001, 1001, 999, 999, 100, 100, 100};
            int[] amounts = {1, 2, 3, 4, 1, 2, 1000, 1001, 998, 999, 1, 2, 99999};
            int[] gifts = {0, 1, 1, 2, 0, 1, 999, 1000, 998, 1000, 10, 20, 999990};
            for (int i = 0; i < rates.length; i++) {
                c.is(amounts[i] + " at " + rates[i], given(rates[i], 0, 1, amounts[i]), gifts[i]);
            }
        });
        edges.of("an amount of the other currency gives amount * r / 1000 of home money.", c -> {
            int[] rates = {100, 100, 100, 100, 999, 999, 1001, 1001, 2000, 2000};
            int[] amounts = {9, 10, 19, 20, 1, 2, 999, 1000, 1, 99999};
            int[] gifts = {0, 1, 1, 2, 0, 1, 999, 1001, 2, 199998};
            for (int i = 0; i < rates.length; i++) {
                c.is(amounts[i] + " at " + rates[i], given(rates[i], 1, 0, amounts[i]), gifts[i]);
            }
        });
    }

    /** What is kept of an exchange that gives this much, from home money and back. */
    private static void spread(Check c, int setting, int gift, int due) {
        TravelPurses x = Scenes.withHome(gift);
        x.set(1, setting);
        c.is("what comes in of " + gift, x.exchange(0, 0, 1, gift), gift - due);
        c.is("it is in the purse", x.purse(0, 1, 0), gift - due);
        c.is("kept in other money", x.count(8), due);
        c.is("none in home money", x.count(7), 0);
        TravelPurses y = Scenes.with(1, gift);
        y.set(1, setting);
        c.is("what comes in of " + gift + " to home", y.exchange(0, 1, 0, gift), gift - due);
        c.is("it is in the purse of home money", y.purse(0, 0, 0), gift - due);
        c.is("kept in home money", y.count(7), due);
        c.is("none in other money", y.count(8), 0);
    }

    private static void spreads(Edges edges) {
        edges.of("Of what it gives, that times setting 1 divided by 1000 is kept as the spread;"
                + " the rest comes into the purse.", c -> {
            spread(c, 10, 99, 0);
            spread(c, 10, 100, 1);
            spread(c, 10, 199, 1);
            spread(c, 10, 200, 2);
            spread(c, 0, 99999, 0);
            spread(c, 1, 999, 0);
            spread(c, 1, 1000, 1);
            spread(c, 100, 9, 0);
            spread(c, 100, 10, 1);
            spread(c, 100, 99999, 9999);
            spread(c, 99, 99999, 9899);
        });
        edges.of("Of what it gives, that times setting 1 divided by 1000 is kept as the spread;"
                + " the rest comes into the purse.", c -> {
            TravelPurses x = new TravelPurses();
            x.load(0, 200);
            x.quote(1, 2000);
            c.is("of what it gives, not of what it takes", x.exchange(0, 0, 1, 199), 99);
            c.is("so that there is none", x.count(8), 0);
        });
    }
}
