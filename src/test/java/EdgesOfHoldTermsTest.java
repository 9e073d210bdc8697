import java.io.IOException;

/** Sentences of "Terms": holds, payments, reasons, closing, settings. */
public final class EdgesOfHoldTermsTest {
    private EdgesOfHoldTermsTest() {
    }

    public static void main(String[] args) throws IOException {
        Edges edges = new Edges("EdgesOfHoldTermsTest");
        edges.under("Terms");
        holds(edges);
        days(edges);
        payments(edges);
        disputes(edges);
        reasons(edges);
        closing(edges);
        settings(edges);
        edges.end();
    }

    private static void keeps(Check c, int setting, int amount, int due) {
        TravelPurses x = Scenes.withHome(due);
        x.set(2, setting);
        c.is("hold of " + amount, x.hold(0, 0, amount), 0);
        c.is("amount", x.held(0, 2), amount);
        c.is("what it keeps", x.held(0, 3), due);
        c.is("kept in the purse", x.purse(0, 0, 1), due);
        c.is("nothing is free beside it", x.purse(0, 0, 2), 0);
    }

    private static void holds(Edges edges) {
        edges.of("A hold keeps, in a purse, an amount and room for a tip: the amount times setting"
                + " 2 divided by 100.", c -> {
            keeps(c, 20, 4, 4);
            keeps(c, 20, 5, 6);
            keeps(c, 20, 9, 10);
            keeps(c, 20, 10, 12);
            keeps(c, 0, 99999, 99999);
            keeps(c, 1, 99, 99);
            keeps(c, 1, 100, 101);
            keeps(c, 50, 1, 1);
            keeps(c, 50, 2, 3);
            keeps(c, 50, 99999, 149998);
            TravelPurses x = Scenes.withHome(1000);
            x.hold(0, 0, 100);
            x.set(2, 50);
            c.is("of the day on which it was made", x.held(0, 3), 100);
            c.is("so that no more is kept", x.purse(0, 0, 1), 100);
            c.is("and no more let go", x.letGo(0), 100);
        });
        edges.of("At most 8 holds are open, numbered from 0", c -> {
            TravelPurses x = Scenes.withHolds(7);
            x.load(3, 30);
            c.is("the eighth one", x.hold(3, 0, 1), 7);
            c.fails("a ninth one", Check.REFUSED, x, () -> x.hold(3, 0, 1));
            c.is("open ones", x.count(1), 8);
            c.is("the first one", x.held(0, 2), 11);
            c.is("the last one", x.held(7, 2), 1);
            x.letGo(3);
            c.is("one in the place of one that is gone", x.hold(3, 0, 2), 7);
            c.fails("again a ninth one", Check.REFUSED, x, () -> x.hold(3, 0, 1));
        });
        edges.of("if one is gone, those behind it have numbers that are less by 1.", c -> {
            for (int gone = 0; gone < 8; gone++) {
                TravelPurses x = Scenes.withHolds(8);
                x.letGo(gone);
                behind(c, x, gone);
                TravelPurses y = Scenes.withHolds(8);
                y.pay(gone, 1);
                behind(c, y, gone);
            }
        });
        edges.of("if one is gone, those behind it have numbers that are less by 1.", c -> {
            TravelPurses x = Scenes.withHome(100);
            x.hold(0, 0, 11);
            x.pass(1);
            x.hold(0, 0, 12);
            x.hold(0, 0, 13);
            x.pass(5);
            c.is("the first one was too old", x.count(1), 2);
            c.is("the second one is first", x.held(0, 2), 12);
            c.is("the third one is second", x.held(1, 2), 13);
        });
    }

    /** The amounts were 11 to 18. */
    private static void behind(Check c, TravelPurses x, int gone) {
        c.is("open ones", x.count(1), 7);
        for (int hold = 0; hold < 7; hold++) {
            c.is("hold " + hold + " when " + gone + " is gone", x.held(hold, 2),
                    hold < gone ? 11 + hold : 12 + hold);
        }
        c.fails("the greatest number is free", Check.NO_SUCH, x, () -> x.held(7, 0));
    }

    private static void days(Edges edges) {
        edges.of("When a day passes, its number becomes 1 more", c -> {
            TravelPurses x = new TravelPurses();
            x.pass(1);
            c.is("day", x.count(0), 1);
            x.pass(60);
            c.is("60 days later", x.count(0), 61);
        });
        edges.of("then all holds are gone that were made more than setting 3 days before it.",
                c -> {
            int[] days = {0, 1, 5, 59, 60};
            for (int most : days) {
                TravelPurses x = Scenes.withHome(100);
                x.set(3, most);
                x.pass(2);
                x.hold(0, 0, 10);
                if (most > 0) {
                    c.is("not yet", x.pass(most), 0);
                }
                c.is("still there", x.count(1), 1);
                c.is("a day more", x.pass(1), 1);
                c.is("gone", x.count(1), 0);
                c.is("all is free", x.purse(0, 0, 2), 100);
                x.hold(0, 0, 10);
                c.is("more days at once", x.pass(Math.min(60, most + 1)), most == 60 ? 0 : 1);
            }
        });
        edges.of("then all holds are gone that were made more than setting 3 days before it.",
                c -> {
            TravelPurses x = Scenes.withHome(100);
            x.hold(0, 0, 10);
            x.hold(0, 0, 10);
            x.pass(5);
            x.set(3, 4);
            c.is("none before a day passes", x.count(1), 2);
            x.hold(0, 0, 10);
            c.is("the old ones when it does", x.pass(1), 2);
            x.set(3, 60);
            c.is("the setting of the day that passes", x.pass(59), 0);
        });
    }

    private static void payments(Edges edges) {
        String sentence = "A payment is taken out of a hold: of at most what it keeps; it comes"
                + " out of the balance, and the hold is gone.";
        edges.of(sentence, c -> {
            int[] amounts = {1, 119, 120};
            for (int amount : amounts) {
                TravelPurses x = Scenes.withHome(500);
                x.set(2, 20);
                x.hold(0, 0, 100);
                c.is("pay " + amount, x.pay(0, amount), 0);
                c.is("balance", x.purse(0, 0, 0), 500 - amount);
                c.is("all of it is free", x.purse(0, 0, 2), 500 - amount);
                c.is("the hold is gone", x.count(1), 0);
            }
            TravelPurses y = Scenes.withHome(500);
            y.set(2, 20);
            y.hold(0, 0, 100);
            c.fails("more than it keeps", Check.REFUSED, y, () -> y.pay(0, 121));
        });
        edges.of("There are at most 12 payments, numbered from 0 in the order in which they came",
                c -> {
            TravelPurses x = Scenes.withPayments(11);
            x.hold(0, 0, 5);
            x.hold(0, 0, 6);
            c.is("the twelfth one", x.pay(1, 6), 11);
            c.fails("a thirteenth one", Check.REFUSED, x, () -> x.pay(0, 1));
            for (int payment = 0; payment < 11; payment++) {
                c.is("payment " + payment, x.payment(payment, 2), 11 + payment);
            }
            c.is("the last payment", x.payment(11, 2), 6);
            x.dispute(3);
            x.decide(3, false);
            c.fails("also if one is lost", Check.REFUSED, x, () -> x.pay(0, 1));
            x.letGo(0);
            x.close(0);
            c.is("also if the wallet is closed", x.count(2), 12);
        });
        edges.of("each is plain (0), disputed (1), won (2) or lost (3).", c -> {
            TravelPurses x = Scenes.withPayments(4);
            x.dispute(1);
            x.dispute(2);
            x.decide(2, true);
            x.dispute(3);
            x.decide(3, false);
            for (int payment = 0; payment < 4; payment++) {
                c.is("payment " + payment, x.payment(payment, 4), payment);
            }
            x.pass(60);
            for (int payment = 0; payment < 4; payment++) {
                c.is("payment " + payment + " later", x.payment(payment, 4), payment);
            }
        });
    }

    private static void disputes(Edges edges) {
        edges.of("A plain payment can be disputed through the day on which it was made and 30 more"
                + " days", c -> {
            int[] days = {0, 1, 29, 30};
            for (int later : days) {
                TravelPurses x = Scenes.onDay(4);
                Scenes.load(x, 0, 100);
                x.hold(0, 0, 10);
                x.pay(0, 10);
                Scenes.pass(x, later);
                c.is("can be disputed", x.payment(0, 5), 1);
                c.is("days later: " + later, x.dispute(0), 100);
            }
            TravelPurses y = Scenes.withPayments(1);
            y.pass(31);
            c.is("cannot be disputed", y.payment(0, 5), 0);
            c.fails("31 days later", Check.REFUSED, y, () -> y.dispute(0));
        });
        edges.of("A plain payment can be disputed through the day on which it was made and 30 more"
                + " days", c -> {
            TravelPurses x = Scenes.withHome(100);
            x.set(3, 60);
            x.hold(0, 0, 10);
            x.pass(20);
            x.pay(0, 10);
            x.pass(30);
            c.is("from the day of the payment, not of the hold", x.dispute(0), 100);
        });
        edges.of("its amount comes into the purse as provisional credit.", c -> {
            TravelPurses x = Scenes.withPayments(2);
            c.is("balance", x.dispute(1), 1012);
            c.is("credit", x.purse(0, 0, 6), 12);
            c.is("it is free", x.purse(0, 0, 2), 1012);
            c.is("it can be spent", x.exchange(0, 0, 1, 1012), 1012);
        });
        edges.of("If the dispute is won, that is all.", c -> {
            TravelPurses x = Scenes.withPayments(1);
            x.dispute(0);
            int[] counts = new int[13];
            for (int what = 0; what <= 12; what++) {
                counts[what] = x.count(what);
            }
            c.is("no debt by it", x.decide(0, true), 0);
            c.is("the money stays", x.purse(0, 0, 0), 1011);
            c.is("no debt", x.purse(0, 0, 3), 0);
            c.is("no credit", x.purse(0, 0, 6), 0);
            for (int what = 0; what <= 12; what++) {
                c.is("count " + what, x.count(what), what == 3 ? 0 : counts[what]);
            }
        });
        edges.of("If the dispute is won, that is all.", c -> {
            TravelPurses x = Scenes.withPayments(2);
            x.dispute(0);
            x.dispute(1);
            x.exchange(0, 0, 1, 1023);
            x.decide(0, false);
            c.is("with a debt that there is", x.decide(1, true), 0);
            c.is("it stays as it is", x.purse(0, 0, 3), 11);
            c.is("nothing pays it", x.count(12), 0);
        });
        edges.of("If it is lost, the credit is taken back: out of what is free of the purse, as far"
                + " as it goes; the rest becomes debt.", EdgesOfHoldTermsTest::takenBack);
    }

    private static void takenBack(Check c) {
        int[] free = {0, 1, 99, 100, 101};
        int[] debts = {100, 99, 1, 0, 0};
        int[] left = {0, 0, 0, 0, 1};
        for (int i = 0; i < free.length; i++) {
            TravelPurses x = Scenes.withHome(1100);
            x.hold(0, 0, 100);
            x.pay(0, 100);
            x.dispute(0);
            x.hold(0, 0, 1100 - free[i]);
            c.is("what becomes debt", x.decide(0, false), debts[i]);
            c.is("debt with " + free[i], x.purse(0, 0, 3), debts[i]);
            c.is("free", x.purse(0, 0, 2), left[i]);
            c.is("held", x.purse(0, 0, 1), 1100 - free[i]);
            c.is("balance", x.purse(0, 0, 0), 1100 - free[i] + left[i]);
            c.is("no credit", x.purse(0, 0, 6), 0);
            c.is("no debt is paid by it", x.count(12), 0);
            x.letGo(0);
            c.is("a later hold that is gone pays none", x.purse(0, 0, 3), debts[i]);
        }
        TravelPurses y = Scenes.withPayments(2);
        y.dispute(0);
        y.dispute(1);
        y.exchange(0, 0, 1, 1023);
        c.is("one debt", y.decide(0, false), 11);
        c.is("and another one", y.decide(1, false), 12);
        c.is("together", y.purse(0, 0, 3), 23);
    }

    private static void reasons(Edges edges) {
        String first = "is refused for one of these reasons, of which the first one is told";
        edges.of(first, c -> {
            TravelPurses x = Scenes.withHolds(8);
            c.is("1 ahead of 2", x.whyNot(0, 0, 1, 1, 5), 1);
            c.is("1 ahead of 2, home money", x.whyNot(0, 0, 0, 0, 5), 1);
            c.is("2 ahead of 3", x.whyNot(1, 0, 0, 0, 1), 2);
        });
        edges.of(first, c -> {
            TravelPurses x = Scenes.withDebt(0, 50);
            c.is("6", x.whyNot(2, 0, 0, 0, 1), 6);
            x.hold(0, 1, 20);
            x.pay(0, 20);
            x.dispute(1);
            c.is("5 ahead of 6", x.whyNot(2, 0, 0, 0, 1), 5);
            x.hold(0, 1, 5);
            c.is("4 ahead of 5 and 6", x.whyNot(2, 0, 0, 0, 1), 4);
            x.decide(1, true);
            c.is("4 ahead of 6", x.whyNot(2, 0, 0, 0, 1), 4);
            x.letGo(0);
            c.is("6 again", x.whyNot(2, 0, 0, 0, 1), 6);
            x.load(0, 50);
            c.is("none", x.whyNot(2, 0, 0, 0, 1), 0);
        });
        edges.of("1 both currencies are the same, or none of both is 0 (exchange)", c -> {
            TravelPurses x = Scenes.withHome(100);
            for (int from = 0; from < 4; from++) {
                for (int to = 0; to < 4; to++) {
                    boolean isPair = from != to && (from == 0 || to == 0);
                    c.is(from + " to " + to, x.whyNot(0, 0, from, to, 1),
                            !isPair ? 1 : from == 0 ? 0 : 2);
                }
            }
        });
        edges.of("2 what is free is too little (exchange; hold, with the room)", c -> {
            TravelPurses x = Scenes.withHome(100);
            x.hold(0, 0, 20);
            x.set(2, 25);
            c.is("an exchange of what is free", x.whyNot(0, 0, 0, 2, 80), 0);
            c.is("of more", x.whyNot(0, 0, 0, 2, 81), 2);
            c.is("a hold with its room", x.whyNot(1, 0, 0, 0, 64), 0);
            c.is("with too much room", x.whyNot(1, 0, 0, 0, 65), 2);
            c.is("an empty purse", x.whyNot(1, 0, 1, 0, 1), 2);
            c.is("an empty purse, exchange", x.whyNot(0, 0, 1, 0, 1), 2);
        });
        edges.of("3 there are 8 holds (hold)", c -> {
            TravelPurses x = Scenes.withHolds(7);
            x.load(0, 100);
            x.load(2, 100);
            c.is("seven", x.whyNot(1, 2, 0, 0, 50), 0);
            x.hold(0, 0, 100);
            c.is("eight", x.whyNot(1, 2, 0, 0, 50), 3);
            c.is("an exchange does not need one", x.whyNot(0, 2, 0, 1, 50), 0);
        });
        edges.of("4 a purse of the wallet has holds (closing)", c -> {
            for (int currency = 0; currency < 4; currency++) {
                TravelPurses x = Scenes.with(currency, 2);
                c.is("no hold", x.whyNot(2, 0, 0, 0, 1), 0);
                x.hold(0, currency, 1);
                c.is("a hold in " + currency, x.whyNot(2, 0, 0, 0, 1), 4);
                c.is("another wallet", x.whyNot(2, 1, 0, 0, 1), 0);
            }
        });
        edges.of("5 a payment of the wallet is disputed (closing)", c -> {
            for (int currency = 0; currency < 4; currency++) {
                TravelPurses x = Scenes.with(currency, 2);
                x.hold(0, currency, 1);
                x.pay(0, 1);
                c.is("a plain payment", x.whyNot(2, 0, 0, 0, 1), 0);
                x.dispute(0);
                c.is("a disputed one in " + currency, x.whyNot(2, 0, 0, 0, 1), 5);
                c.is("another wallet", x.whyNot(2, 1, 0, 0, 1), 0);
                x.decide(0, currency < 2);
                c.is("a decided one", x.whyNot(2, 0, 0, 0, 1), 0);
            }
        });
        edges.of("6 a purse of the wallet has debt (closing).", c -> {
            int[] debts = {1, 1, 1, 2};
            for (int currency = 0; currency < 4; currency++) {
                TravelPurses x = Scenes.withDebt(currency, debts[currency]);
                c.is("debt in " + currency, x.whyNot(2, 0, 0, 0, 1), 6);
                c.is("another wallet", x.whyNot(2, 1, 0, 0, 1), 0);
            }
        });
    }

    private static void closing(Edges edges) {
        edges.of("To close a wallet is to exchange all balances of the currencies 1 to 3, in this"
                + " order, to home money, and to pay the balance of home money out", c -> {
            TravelPurses x = Scenes.withHome(10000);
            x.exchange(0, 0, 1, 1000);
            x.exchange(0, 0, 2, 1500);
            x.exchange(0, 0, 3, 500);
            x.load(2, 77);
            x.set(1, 10);
            c.is("what is paid out", x.close(0), 7000 + 990 + 1485 + 495);
            for (int currency = 0; currency < 4; currency++) {
                c.is("balance", x.purse(0, currency, 0), 0);
            }
            c.is("another wallet", x.purse(2, 0, 0), 77);
            c.is("paid out so far", x.count(5), 9970);
            c.is("spread", x.count(7), 30);
        });
        edges.of("its locks are gone.", c -> {
            TravelPurses x = Scenes.with(1, 100);
            for (int currency = 1; currency <= 3; currency++) {
                x.lock(0, currency);
                x.lock(1, currency);
                x.quote(currency, 700);
            }
            c.is("at the locked rate", x.close(0), 100);
            int[] locked = {1000, 1500, 500};
            for (int currency = 1; currency <= 3; currency++) {
                c.is("no lock", x.purse(0, currency, 5), TravelPurses.NONE);
                c.is("market rate", x.purse(0, currency, 4), 700);
                c.is("another wallet's lock", x.purse(1, currency, 5), 7);
                c.is("and its rate", x.purse(1, currency, 4), locked[currency - 1]);
            }
        });
    }

    private static void setting(Edges edges, String sentence, int setting, int most, int first) {
        edges.of(sentence, c -> {
            TravelPurses x = new TravelPurses();
            c.is("at first", x.setting(setting), first);
            c.is("the most", x.set(setting, most), first);
            c.is("it is set", x.setting(setting), most);
            c.is("the least", x.set(setting, 0), most);
            c.is("it is set", x.setting(setting), 0);
            c.failsWith(Check.WRONG, x, value -> x.set(setting, value), -1, most + 1,
                    Integer.MIN_VALUE, Integer.MAX_VALUE);
        });
    }

    private static void settings(Edges edges) {
        setting(edges, "0: days of a lock, 0 to 60, at first 7", 0, 60, 7);
        setting(edges, "1: the spread in thousandths, 0 to 100, at first 10", 1, 100, 10);
        setting(edges, "2: the tip in percent, 0 to 50, at first 20", 2, 50, 20);
        setting(edges, "3: days of a hold, 0 to 60, at first 5.", 3, 60, 5);
    }
}
