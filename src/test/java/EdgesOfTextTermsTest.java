import java.io.IOException;

/** Sentences of "Terms": input text, undo, exceptions, the constant. */
public final class EdgesOfTextTermsTest {
    private interface Act {
        long on(TravelPurses x);
    }

    private EdgesOfTextTermsTest() {
    }

    public static void main(String[] args) throws IOException {
        Edges edges = new Edges("EdgesOfTextTermsTest");
        edges.under("Terms");
        rows(edges);
        amounts(edges);
        errors(edges);
        undo(edges);
        exceptions(edges);
        edges.of("The constants: `NONE = -1`", c -> c.is("NONE", TravelPurses.NONE, -1));
        edges.end();
    }

    /** The least number of characters of the text that begin no row of orders. */
    private static void error(Check c, String text, int due) {
        TravelPurses x = Scenes.withText(text);
        c.is("firstError of " + text, x.firstError(), due);
        c.is("its length is as it was", x.clearBuffer(), text.length());
    }

    private static void good(Check c, String... texts) {
        for (String text : texts) {
            error(c, text, text.length());
        }
    }

    private static void badAtEnd(Check c, String... texts) {
        for (String text : texts) {
            error(c, text, text.length() - 1);
        }
    }

    private static void rows(Edges edges) {
        edges.of("The buffer has at most 60 characters.", c -> {
            TravelPurses x = Scenes.withText("l0+1;".repeat(11) + "l0+1");
            c.is("the sixtieth one", x.append('1'), 60);
            c.fails("another one", Check.REFUSED, x, () -> x.append('1'));
            c.is("none is an error", x.firstError(), 60);
            c.is("they are all read", x.run(), 12);
            c.is("by 12 orders", x.purse(0, 0, 0), 22);
            c.is("there is room again", x.append('1'), 1);
        });
        edges.of("A row of orders as a text is one or more orders with \";\" between them", c -> {
            TravelPurses none = new TravelPurses();
            c.fails("no order", Check.WRONG, none, () -> none.run());
            TravelPurses open = Scenes.withText("l0+1;");
            c.fails("nothing behind ;", Check.WRONG, open, () -> open.run());
            c.is("one", Scenes.withText("l0+1").run(), 1);
            c.is("two", Scenes.withText("l0+1;l0+1").run(), 2);
            badAtEnd(c, ";", "l0+1;;", "l0+1,", "l0+1:", "l0+1l");
            good(c, "l0+1;", "l0+1;l");
        });
        edges.of("each with the digit of a wallet, 0 to 3, behind its sign", c -> {
            String[] signs = {"l", "x", "h", "l0+1;l", "l0+1;x", "l0+1;h"};
            for (String sign : signs) {
                good(c, sign + "0", sign + "3");
                badAtEnd(c, sign + "4", sign + "/", sign + "9", sign + ":", sign + "+", sign + ";",
                        sign + "l");
            }
            badAtEnd(c, "l00", "l33");
        });
        edges.of("\"l\", the wallet, \"+\", and an amount (home money is loaded)", c -> {
            good(c, "l", "l2", "l2+", "l2+7");
            badAtEnd(c, "k", "m", "L", "l2:", "l2,", "l2-", "l2*", "l2++");
            TravelPurses x = Scenes.withText("l2+7");
            c.is("carried out", x.run(), 1);
            c.is("in the wallet", x.purse(2, 0, 0), 7);
        });
        edges.of("\"x\", the wallet, the digits of two currencies, \":\", and an amount (an"
                + " exchange from the first one to the second one)", c -> {
            good(c, "x", "x0", "x00", "x03", "x000", "x003", "x030", "x033", "x003:", "x033:5");
            badAtEnd(c, "w", "y", "X", "x04", "x0/", "x0:", "x004", "x00/", "x00:", "x003+",
                    "x0033", "x003;", "x003::");
            TravelPurses x = new TravelPurses();
            x.load(1, 100);
            c.is("carried out", Check.runText(x, "x103:100"), 1);
            c.is("to the second one", x.purse(1, 3, 0), 198);
            c.is("and back", Check.runText(x, "x130:198"), 1);
            c.is("from the first one", x.purse(1, 3, 0), 0);
            c.is("to home money", x.purse(1, 0, 0), 99);
        });
        edges.of("\"h\", the wallet, the digit of a currency, \":\", and an amount (a hold).",
                c -> {
            good(c, "h", "h0", "h00", "h03", "h03:", "h03:5");
            badAtEnd(c, "g", "i", "H", "h04", "h0/", "h0:", "h03+", "h033", "h03;", "h03::");
            TravelPurses x = new TravelPurses();
            x.load(1, 100);
            x.exchange(1, 0, 3, 100);
            c.is("carried out", Check.runText(x, "h13:100"), 1);
            c.is("wallet", x.held(0, 0), 1);
            c.is("currency", x.held(0, 1), 3);
            c.is("with room for a tip", x.held(0, 3), 120);
        });
    }

    private static void amounts(Edges edges) {
        edges.of("Currencies are 0 to 3", c -> {
            good(c, "h00", "h03", "x00", "x03", "x000", "x003");
            badAtEnd(c, "h04", "h0/", "x04", "x0/", "x004", "x00/");
        });
        edges.of("amounts are 1 to 99999, without leading zeros.", c -> {
            String[] starts = {"l0+", "x001:", "h00:", "l0+5;l3+"};
            for (String start : starts) {
                good(c, start + "1", start + "9", start + "10", start + "99999", start + "10000");
                badAtEnd(c, start + "0", start + "100000", start + "999990", start + "999999",
                        start + "123456", start + "/", start + ":", start + ";", start + "1:",
                        start + "1/");
                error(c, start + "01", start.length());
                error(c, start + "00001", start.length());
            }
        });
        edges.of("amounts are 1 to 99999, without leading zeros.", c -> {
            c.is("the least", Scenes.withText("l0+1").run(), 1);
            TravelPurses x = Scenes.withText("l0+99999");
            c.is("the greatest", x.run(), 1);
            c.is("it is loaded", x.purse(0, 0, 0), 99999);
        });
    }

    private static void errors(Edges edges) {
        String sentence = "The buffer is read from left to right; a character is a syntax error if"
                + " no row of orders, of any length, begins with the characters before it and this"
                + " character.";
        edges.of(sentence, c -> {
            error(c, "", 0);
            error(c, "~", 0);
            error(c, "~~", 0);
            error(c, "l~~", 1);
            error(c, "l0+1~l0+1", 4);
            error(c, "l0+1;l0~", 7);
        });
        edges.of(sentence, c -> {
            String longest = "l0+1;".repeat(12);
            error(c, longest, 60);
            error(c, longest.substring(0, 59) + "l", 59);
            error(c, longest.substring(0, 59) + "9", 60);
            error(c, "l0+111" + ";l0+1".repeat(10) + ";l0+", 60);
        });
        edges.of(sentence, c -> {
            good(c, "x000:1", "x012:1", "x331:99999", "l0+1;x1");
            error(c, "x0000:1", 4);
        });
    }

    /** At least one change of each kind, and saved states up to a number. */
    private static TravelPurses rich(int states) {
        TravelPurses x = Scenes.withPayments(4);
        x.load(1, 5000);
        x.exchange(1, 0, 1, 1000);
        x.exchange(1, 0, 2, 1500);
        x.dispute(1);
        x.dispute(2);
        x.hold(1, 0, 100);
        x.hold(1, 2, 200);
        x.lock(1, 2);
        x.quote(2, 1200);
        x.exchange(0, 0, 1, x.purse(0, 0, 2));
        x.decide(2, false);
        while (x.count(13) > 0) {
            Scenes.save(x, 6);
            for (int i = 0; i < 6; i++) {
                x.undo();
            }
        }
        return Scenes.save(x, states);
    }

    /** The act saves one state, the one from before it, however many there are. */
    private static void saves(Check c, String what, Act act) {
        for (int states = 0; states <= 6; states += 3) {
            TravelPurses x = rich(states);
            int left = Math.min(5, states);
            long due = left == states ? x.digest() : rich(left).digest();
            act.on(x);
            c.is("saved states after " + what, x.count(13), left + 1);
            c.is("undo of " + what, x.undo(), left);
            c.is("digest after the undo of " + what, x.digest(), due);
        }
    }

    private static void undo(Edges edges) {
        String marked = "Each method that is marked \"undoable\" and does not throw an exception"
                + " saves the state from before it (also if it changes nothing)";
        edges.of(marked, c -> {
            saves(c, "load", x -> x.load(0, 5));
            saves(c, "quote", x -> x.quote(1, 500));
            saves(c, "lock", x -> x.lock(0, 1));
            saves(c, "lock in a lock's place", x -> x.lock(1, 2));
            saves(c, "exchange", x -> x.exchange(1, 0, 2, 100));
            saves(c, "exchange to home", x -> x.exchange(1, 1, 0, 1000));
            saves(c, "hold", x -> x.hold(1, 1, 1000));
            saves(c, "pay", x -> x.pay(0, 100));
            saves(c, "letGo", x -> x.letGo(0));
            saves(c, "dispute", x -> x.dispute(0));
            saves(c, "decide, won", x -> x.decide(1, true));
            saves(c, "decide, lost", x -> x.decide(1, false));
            saves(c, "close", x -> x.close(2));
            saves(c, "pass", x -> x.pass(60));
            saves(c, "set", x -> x.set(1, 100));
            saves(c, "run", x -> Check.runText(x, "l0+70;x110:9;h20:1"));
        });
        edges.of(marked, c -> {
            saves(c, "quote of the same rate", x -> x.quote(1, 1000));
            saves(c, "lock at the same rate", x -> x.lock(1, 2));
            saves(c, "close of an empty wallet", x -> x.close(3));
            saves(c, "set of the same value", x -> x.set(3, 5));
            saves(c, "run of no order", x -> Check.runText(x, "h30:1"));
        });
        edges.of(marked, c -> {
            TravelPurses x = rich(2);
            c.fails("load", Check.WRONG, x, () -> x.load(0, 0));
            c.fails("pay", Check.REFUSED, x, () -> x.pay(0, 101));
            c.fails("run", Check.WRONG, x, () -> x.run());
            x.append('l');
            x.firstError();
            x.clearBuffer();
            x.ifClosed(0);
            x.digest();
            c.is("what is not marked, or throws, saves none", x.count(13), 2);
        });
        edges.of("all, also what is counted so far, but the buffer and the saved states.",
                EdgesOfTextTermsTest::allComesBack);
        edges.of("all, also what is counted so far, but the buffer and the saved states.", c -> {
            TravelPurses x = Scenes.withText("l0+");
            x.load(0, 1);
            x.append('7');
            c.is("undo", x.undo(), 0);
            c.is("what was appended later stays", x.firstError(), 4);
            x.load(0, 1);
            x.clearBuffer();
            x.undo();
            c.is("what was cleared later does not come back", x.clearBuffer(), 0);
            Check.runText(x, "l0+5");
            x.undo();
            c.is("nor what was run", x.clearBuffer(), 0);
            c.is("but its load is undone", x.count(4), 0);
        });
        edges.of("At most 6 states are saved; the oldest one is dropped first.", c -> {
            for (int calls = 5; calls <= 20; calls++) {
                TravelPurses x = new TravelPurses();
                for (int i = 1; i <= calls; i++) {
                    x.load(0, 1);
                }
                int states = Math.min(calls, 6);
                c.is("saved states after " + calls, x.count(13), states);
                for (int left = states - 1; left >= 0; left--) {
                    c.is("undo", x.undo(), left);
                    c.is("balance", x.purse(0, 0, 0), calls - states + left);
                }
                c.fails("one undo more", Check.REFUSED, x, () -> x.undo());
            }
        });
    }

    /** Holds, payments, debt, locks, and other numbers in all that is counted. */
    private static TravelPurses busy() {
        TravelPurses x = new TravelPurses();
        x.load(0, 9000);
        x.load(1, 8000);
        x.exchange(0, 0, 1, 3000);
        x.exchange(0, 0, 2, 1500);
        x.exchange(1, 0, 3, 1000);
        x.exchange(0, 1, 0, 500);
        x.pass(1);
        x.pay(x.hold(0, 0, 100), 110);
        x.pay(x.hold(1, 3, 200), 210);
        x.pay(x.hold(0, 1, 300), 333);
        x.dispute(0);
        x.dispute(1);
        x.exchange(1, 3, 0, 1980);
        x.decide(1, false);
        x.exchange(1, 0, 3, 50);
        x.load(2, 700);
        x.close(2);
        x.hold(0, 2, 55);
        x.pass(1);
        x.hold(1, 0, 401);
        x.pass(1);
        x.hold(0, 1, 77);
        x.lock(0, 1);
        x.lock(1, 2);
        x.quote(1, 1100);
        x.set(3, 9);
        return x;
    }

    /** What there is of the wallets 0 and 1, but the saved states. */
    private static String told(TravelPurses x) {
        StringBuilder text = new StringBuilder();
        for (int what = 0; what <= 12; what++) {
            text.append(x.count(what)).append(' ');
        }
        for (int setting = 0; setting <= 3; setting++) {
            text.append(x.setting(setting)).append(' ');
        }
        for (int purse = 0; purse <= 7; purse++) {
            for (int what = 0; what <= 7; what++) {
                text.append(x.purse(purse / 4, purse % 4, what)).append(' ');
            }
        }
        int holds = x.count(1);
        for (int i = 0; i < 5 * holds; i++) {
            text.append(x.held(i / 5, i % 5)).append(' ');
        }
        int payments = x.count(2);
        for (int i = 0; i < 6 * payments; i++) {
            text.append(x.payment(i / 6, i % 6)).append(' ');
        }
        return text.toString();
    }

    private static void comesBack(Check c, String what, Act... sixActs) {
        TravelPurses x = busy();
        String due = told(x);
        for (Act act : sixActs) {
            act.on(x);
        }
        for (int left = 5; left >= 0; left--) {
            c.is("undo of " + what, x.undo(), left);
        }
        c.isText("what there is after the undo of " + what, told(x), due);
    }

    private static void allComesBack(Check c) {
        c.isText("what there is", told(busy()), "3 3 3 1 17700 700 6 14 61 1100 1500 500 99 "
                + "7 10 20 9 "
                + "4995 0 4995 0 1000 -1 110 110 2137 92 2045 0 1000 10 0 333 "
                + "990 66 924 0 1500 -1 0 0 0 0 0 0 500 -1 0 0 "
                + "7931 481 7450 0 1000 -1 0 0 0 0 0 0 1100 -1 0 0 "
                + "0 0 0 0 1500 10 0 0 0 0 0 111 500 -1 0 210 "
                + "0 2 55 66 1 1 0 401 481 2 0 1 77 92 3 "
                + "0 0 110 1 1 0 1 3 210 1 3 0 0 1 333 1 0 1 ");
        comesBack(c, "holds", x -> x.letGo(0), x -> x.letGo(0), x -> x.letGo(0),
                x -> x.hold(1, 0, 11), x -> x.hold(0, 0, 12), x -> x.hold(0, 0, 13));
        comesBack(c, "payments", x -> x.pay(1, 481), x -> x.dispute(2), x -> x.dispute(3),
                x -> x.decide(0, true), x -> x.decide(2, false), x -> x.pay(0, 1));
        comesBack(c, "what is counted", x -> x.load(1, 50), x -> x.exchange(0, 0, 3, 1000),
                x -> x.exchange(1, 0, 3, 1000), x -> x.exchange(0, 2, 0, 900), x -> x.load(3, 60),
                x -> x.close(3));
        comesBack(c, "days", x -> x.pass(1), x -> x.pass(60), x -> x.lock(0, 1), x -> x.lock(0, 3),
                x -> x.quote(2, 100), x -> x.quote(3, 2000));
        comesBack(c, "settings", x -> x.set(0, 60), x -> x.set(1, 100), x -> x.set(2, 50),
                x -> x.set(3, 60), x -> x.lock(1, 2), x -> x.hold(0, 0, 100));
        comesBack(c, "closing", x -> x.letGo(0), x -> x.letGo(1), x -> x.decide(0, false),
                x -> x.close(0), x -> Check.runText(x, "l0+77;h00:2"), x -> x.load(0, 5));
    }

    private static void exceptions(Edges edges) {
        String nothing = "A call that throws an exception changes nothing.";
        edges.of(nothing, EdgesOfTextTermsTest::refusedKeepHistory);
        edges.of(nothing, EdgesOfTextTermsTest::refusedHoldsKeepHistory);
        edges.of(nothing, EdgesOfTextTermsTest::refusedPaymentsKeepHistory);
        String first = "If several exceptions apply, the one that is named first in the throws"
                + " clause is thrown.";
        edges.of(first, c -> {
            TravelPurses x = Scenes.withHome(1000000);
            c.fails("load", Check.NO_SUCH, x, () -> x.load(4, 0));
            c.fails("load of a full wallet", Check.WRONG, x, () -> x.load(0, 0));
            c.fails("load of far too much", Check.WRONG, x, () -> x.load(0, 100000));
            c.fails("quote", Check.NO_SUCH, x, () -> x.quote(0, 99));
            c.fails("exchange", Check.NO_SUCH, x, () -> x.exchange(4, 0, 0, 0));
            c.fails("exchange from", Check.NO_SUCH, x, () -> x.exchange(0, 4, 4, 100000));
            c.fails("exchange to", Check.NO_SUCH, x, () -> x.exchange(0, 0, -1, 0));
            c.fails("exchange of no pair", Check.WRONG, x, () -> x.exchange(0, 1, 2, 0));
            c.fails("exchange without money", Check.WRONG, x, () -> x.exchange(1, 0, 1, 100000));
            c.fails("exchange without wallet", Check.NO_SUCH, x, () -> x.exchange(-1, 1, 1, 5));
            c.fails("set", Check.NO_SUCH, x, () -> x.set(4, -1));
        });
        edges.of(first, c -> {
            TravelPurses x = Scenes.withHolds(8);
            c.fails("hold", Check.NO_SUCH, x, () -> x.hold(4, 0, 0));
            c.fails("hold in no currency", Check.NO_SUCH, x, () -> x.hold(0, 4, 5));
            c.fails("a ninth hold", Check.WRONG, x, () -> x.hold(0, 0, 0));
            c.fails("a hold of too much", Check.WRONG, x, () -> x.hold(0, 0, 100000));
            c.fails("pay", Check.NO_SUCH, x, () -> x.pay(8, 0));
            c.fails("held", Check.NO_SUCH, x, () -> x.held(8, 5));
            c.fails("payment", Check.NO_SUCH, x, () -> x.payment(0, 6));
            c.fails("purse", Check.NO_SUCH, x, () -> x.purse(0, 4, 8));
            c.fails("ifExchanged", Check.NO_SUCH, x, () -> x.ifExchanged(0, 0, 4, 0));
            c.fails("needed", Check.NO_SUCH, x, () -> x.needed(0, 0, 0));
            c.fails("whyNot", Check.NO_SUCH, x, () -> x.whyNot(3, 0, 0, 4, 0));
        });
        edges.of(first, c -> {
            TravelPurses x = Scenes.withPayments(12);
            c.fails("no hold", Check.NO_SUCH, x, () -> x.pay(0, 1));
            x.hold(0, 0, 5);
            c.fails("a thirteenth payment", Check.WRONG, x, () -> x.pay(0, 0));
            Check.type(x, "~".repeat(60));
            c.fails("a full buffer", Check.WRONG, x, () -> x.append(32));
        });
        edges.of(first, c -> {
            TravelPurses x = Scenes.onDay(5000);
            c.fails("pass", Check.WRONG, x, () -> x.pass(61));
            c.fails("pass none", Check.WRONG, x, () -> x.pass(0));
        });
    }

    /** Also the six saved states are as they were: all come back, one after the other. */
    private static void keepsHistory(Check c, Class<? extends RuntimeException> due,
            TravelPurses x, Check.Call call) {
        int[] balances = new int[6];
        for (int i = 0; i < 6; i++) {
            balances[i] = x.purse(2, 0, 0);
            x.load(2, 1 + i);
        }
        c.fails("with six states", due, x, call);
        for (int left = 5; left >= 0; left--) {
            c.is("undo after it", x.undo(), left);
            c.is("balance after the undo", x.purse(2, 0, 0), balances[left]);
        }
    }

    private static void refusedKeepHistory(Check c) {
        TravelPurses rich = Scenes.withHome(1000000);
        keepsHistory(c, Check.NO_SUCH, rich, () -> rich.load(4, 1));
        keepsHistory(c, Check.WRONG, rich, () -> rich.load(1, 0));
        keepsHistory(c, Check.REFUSED, rich, () -> rich.load(0, 1));
        keepsHistory(c, Check.NO_SUCH, rich, () -> rich.quote(0, 500));
        keepsHistory(c, Check.WRONG, rich, () -> rich.quote(1, 99));
        keepsHistory(c, Check.NO_SUCH, rich, () -> rich.lock(0, 0));
        keepsHistory(c, Check.NO_SUCH, rich, () -> rich.exchange(0, 0, 4, 1));
        keepsHistory(c, Check.WRONG, rich, () -> rich.exchange(0, 0, 1, 0));
        keepsHistory(c, Check.REFUSED, rich, () -> rich.exchange(0, 0, 0, 1));
        keepsHistory(c, Check.REFUSED, rich, () -> rich.exchange(1, 0, 1, 1));
        keepsHistory(c, Check.NO_SUCH, rich, () -> rich.set(4, 1));
        keepsHistory(c, Check.WRONG, rich, () -> rich.set(2, 51));
        keepsHistory(c, Check.WRONG, rich, () -> rich.run());
    }

    private static void refusedHoldsKeepHistory(Check c) {
        TravelPurses full = Scenes.withHolds(8);
        full.load(1, 1);
        keepsHistory(c, Check.NO_SUCH, full, () -> full.hold(0, 4, 1));
        keepsHistory(c, Check.WRONG, full, () -> full.hold(0, 0, 100000));
        keepsHistory(c, Check.REFUSED, full, () -> full.hold(0, 0, 1));
        keepsHistory(c, Check.REFUSED, full, () -> full.hold(1, 0, 1));
        keepsHistory(c, Check.NO_SUCH, full, () -> full.pay(8, 1));
        keepsHistory(c, Check.WRONG, full, () -> full.pay(0, 0));
        keepsHistory(c, Check.REFUSED, full, () -> full.pay(0, 12));
        keepsHistory(c, Check.NO_SUCH, full, () -> full.letGo(8));
        keepsHistory(c, Check.NO_SUCH, full, () -> full.close(4));
        keepsHistory(c, Check.REFUSED, full, () -> full.close(0));
        keepsHistory(c, Check.WRONG, full, () -> full.pass(61));
        TravelPurses late = Scenes.onDay(4999);
        keepsHistory(c, Check.REFUSED, late, () -> late.pass(2));
    }

    private static void refusedPaymentsKeepHistory(Check c) {
        TravelPurses paid = Scenes.withPayments(12);
        paid.hold(0, 0, 5);
        keepsHistory(c, Check.REFUSED, paid, () -> paid.pay(0, 5));
        keepsHistory(c, Check.NO_SUCH, paid, () -> paid.dispute(12));
        keepsHistory(c, Check.NO_SUCH, paid, () -> paid.decide(12, true));
        keepsHistory(c, Check.REFUSED, paid, () -> paid.decide(0, true));
        keepsHistory(c, Check.REFUSED, paid, () -> paid.decide(0, false));
        paid.letGo(0);
        paid.dispute(0);
        keepsHistory(c, Check.REFUSED, paid, () -> paid.dispute(0));
        keepsHistory(c, Check.REFUSED, paid, () -> paid.close(0));
        paid.pass(31);
        keepsHistory(c, Check.REFUSED, paid, () -> paid.dispute(1));
        TravelPurses owing = Scenes.withDebt(0, 10);
        keepsHistory(c, Check.REFUSED, owing, () -> owing.close(0));
    }
}
