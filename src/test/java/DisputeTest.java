/** Promises 9, 10 and 21: dispute, decide, payment. */
public final class DisputeTest {
    private static final Check CHECK = new Check("DisputeTest");

    public static void main(String[] args) {
        dispute();
        disputeInTime();
        disputeRefused();
        disputePaysDebt();
        decideWon();
        decideLost();
        decideLostWithHolds();
        decideRefused();
        paymentRefused();
        CHECK.end();
    }

    /** The wallet 1 has 5000 of home money and paid 100 out of it on the day 0. */
    private static TravelPurses withPayment() {
        TravelPurses x = new TravelPurses();
        x.load(1, 5100);
        x.hold(1, 0, 100);
        x.pay(0, 100);
        return x;
    }

    private static void dispute() {
        TravelPurses x = withPayment();
        CHECK.is("may be disputed", x.payment(0, 5), 1);
        CHECK.is("dispute", x.dispute(0), 5100);
        CHECK.is("disputed", x.payment(0, 4), 1);
        CHECK.is("not a second time", x.payment(0, 5), 0);
        CHECK.is("credit", x.purse(1, 0, 6), 100);
        CHECK.is("credit of another purse", x.purse(1, 1, 6), 0);
        CHECK.is("credit of another wallet", x.purse(0, 0, 6), 0);
        CHECK.is("disputed payments", x.count(3), 1);
        CHECK.is("all payments still", x.purse(1, 0, 7), 100);
        CHECK.is("credit is no load", x.count(4), 5100);
    }

    private static void disputeInTime() {
        TravelPurses x = withPayment();
        x.pass(30);
        CHECK.is("30 days later", x.payment(0, 5), 1);
        x.pass(1);
        CHECK.is("31 days later", x.payment(0, 5), 0);
        CHECK.fails("too old", Check.REFUSED, x, () -> x.dispute(0));
        x.undo();
        CHECK.is("dispute on the last day", x.dispute(0), 5100);
        x.pass(60);
        CHECK.is("decided at any time", x.decide(0, true), 0);
        x.hold(1, 0, 10);
        x.pay(0, 10);
        x.pass(30);
        CHECK.is("a later payment, 30 days on", x.payment(1, 5), 1);
        CHECK.is("it is disputed", x.dispute(1), 5100);
        x.undo();
        x.pass(1);
        CHECK.is("31 days on", x.payment(1, 5), 0);
    }

    private static void disputeRefused() {
        TravelPurses x = withPayment();
        CHECK.fails("payment 1", Check.NO_SUCH, x, () -> x.dispute(1));
        CHECK.fails("payment -1", Check.NO_SUCH, x, () -> x.dispute(-1));
        x.dispute(0);
        CHECK.fails("disputed", Check.REFUSED, x, () -> x.dispute(0));
        x.decide(0, true);
        CHECK.fails("won", Check.REFUSED, x, () -> x.dispute(0));
        x.undo();
        x.decide(0, false);
        CHECK.fails("lost", Check.REFUSED, x, () -> x.dispute(0));
    }

    private static void disputePaysDebt() {
        TravelPurses x = new TravelPurses();
        x.load(0, 300);
        x.set(2, 0);
        x.hold(0, 0, 100);
        x.hold(0, 0, 200);
        x.pay(0, 100);
        x.pay(0, 200);
        x.dispute(0);
        x.exchange(0, 0, 1, 100);
        CHECK.is("all of it becomes debt", x.decide(0, false), 100);
        CHECK.is("credit pays the debt", x.dispute(1), 100);
        CHECK.is("no debt", x.purse(0, 0, 3), 0);
        CHECK.is("debt paid", x.count(12), 100);
        CHECK.is("the credit is still whole", x.purse(0, 0, 6), 200);
        CHECK.is("taken back", x.decide(1, false), 100);
        CHECK.is("debt again", x.purse(0, 0, 3), 100);
        CHECK.is("nothing left", x.purse(0, 0, 0), 0);
    }

    private static void decideWon() {
        TravelPurses x = withPayment();
        x.dispute(0);
        CHECK.is("won", x.decide(0, true), 0);
        CHECK.is("it is won", x.payment(0, 4), 2);
        CHECK.is("the money stays", x.purse(1, 0, 0), 5100);
        CHECK.is("no credit any more", x.purse(1, 0, 6), 0);
        CHECK.is("none disputed", x.count(3), 0);
        CHECK.is("still a payment", x.count(2), 1);
    }

    private static void decideLost() {
        TravelPurses x = withPayment();
        x.dispute(0);
        CHECK.is("lost", x.decide(0, false), 0);
        CHECK.is("it is lost", x.payment(0, 4), 3);
        CHECK.is("the money is taken back", x.purse(1, 0, 0), 5000);
        CHECK.is("no credit any more", x.purse(1, 0, 6), 0);
        CHECK.is("no debt", x.purse(1, 0, 3), 0);
    }

    private static void decideLostWithHolds() {
        TravelPurses x = withPayment();
        x.dispute(0);
        x.set(2, 0);
        x.hold(1, 0, 5070);
        CHECK.is("only what is free is taken", x.decide(0, false), 70);
        CHECK.is("balance", x.purse(1, 0, 0), 5070);
        CHECK.is("free", x.purse(1, 0, 2), 0);
        CHECK.is("debt", x.purse(1, 0, 3), 70);
        CHECK.is("nothing is paid by it", x.count(12), 0);
        x.letGo(0);
        CHECK.is("debt stays beside free money", x.purse(1, 0, 3), 70);
    }

    private static void decideRefused() {
        TravelPurses x = withPayment();
        CHECK.fails("payment 1", Check.NO_SUCH, x, () -> x.decide(1, true));
        CHECK.fails("payment -1", Check.NO_SUCH, x, () -> x.decide(-1, false));
        CHECK.fails("plain", Check.REFUSED, x, () -> x.decide(0, true));
        x.dispute(0);
        x.decide(0, false);
        CHECK.fails("decided", Check.REFUSED, x, () -> x.decide(0, true));
    }

    private static void paymentRefused() {
        TravelPurses x = new TravelPurses();
        CHECK.fails("no payment", Check.NO_SUCH, x, () -> x.payment(0, 6));
        TravelPurses y = withPayment();
        CHECK.fails("payment 1", Check.NO_SUCH, y, () -> y.payment(1, 0));
        CHECK.fails("payment -1", Check.NO_SUCH, y, () -> y.payment(-1, 0));
        CHECK.fails("what 6", Check.WRONG, y, () -> y.payment(0, 6));
        CHECK.fails("what -1", Check.WRONG, y, () -> y.payment(0, -1));
    }
}
