import java.io.IOException;

/** Sentences of the promise 30: digest. */
public final class EdgesOfDigestTest {
    private EdgesOfDigestTest() {
    }

    public static void main(String[] args) throws IOException {
        Edges edges = new Edges("EdgesOfDigestTest");
        edges.under("Promise 30: digest");
        hash(edges);
        values(edges);
        edges.end();
    }

    private static void same(Check c, String what, TravelPurses x, int... codes) {
        c.is("digest of " + what, x.digest(), DigestSum.of(x, codes));
    }

    private static void differ(Check c, String what, TravelPurses x, TravelPurses y) {
        c.is("the same digest with another " + what, x.digest() == y.digest() ? 1 : 0, 0);
    }

    private static void hash(Edges edges) {
        edges.of("Computes a hash of the whole state.", c -> {
            TravelPurses x = Scenes.withPayments(2);
            long before = x.digest();
            c.is("the same state", x.digest(), before);
            c.is("of another object, too", Scenes.withPayments(2).digest(), before);
            c.is("nothing is saved", x.count(13), 6);
        });
        edges.of("The hash starts at 2551.", c -> same(c, "a new object", new TravelPurses()));
        edges.of("the hash becomes 31 * hash + v, in long arithmetic with overflow.", c -> {
            TravelPurses x = Scenes.withHome(1000000);
            same(c, "much money", x);
            long digest = x.digest();
            c.is("it is no int", digest == (int) digest ? 1 : 0, 0);
        });
    }

    private static void values(Edges edges) {
        edges.of("count(0) to count(13); the settings 0 to 3;", c -> {
            TravelPurses x = Scenes.withDebt(0, 100);
            x.load(0, 55);
            x.set(1, 100);
            x.exchange(0, 1, 0, 80);
            x.exchange(0, 0, 3, 20);
            x.close(0);
            x.pass(1);
            x.quote(1, 1111);
            x.quote(2, 222);
            x.set(0, 60);
            x.set(3, 1);
            same(c, "all counts", x);
        });
        edges.of("for each wallet: for each currency its properties 0 to 7, room, and the bits of"
                + " heldShare (as Double.doubleToLongBits)", c -> {
            TravelPurses x = Scenes.plain();
            for (int wallet = 0; wallet <= 3; wallet++) {
                x.load(wallet, 1000 + wallet);
                x.exchange(wallet, 0, Math.max(1, 3 - wallet), 300);
                x.pay(x.hold(wallet, 0, 100), 77);
                x.hold(wallet, 0, 50 + wallet);
                x.lock(wallet, 1 + wallet % 3);
            }
            x.dispute(1);
            x.quote(1, 1001);
            same(c, "purses", x);
        });
        edges.of("the bits of heldShare (as Double.doubleToLongBits)", c -> {
            int[] balances = {0, 7, 7, 3, 2, 10, 1000000, 1000000, 99991};
            int[] held = {0, 0, 7, 1, 1, 1, 1, 99999, 33331};
            for (int i = 0; i < balances.length; i++) {
                TravelPurses x = Scenes.withHome(balances[i]);
                if (held[i] > 0) {
                    x.hold(0, 0, held[i]);
                }
                same(c, held[i] + " of " + balances[i], x);
            }
        });
        edges.of("ifExchanged of 1000 from 0 to 1, and from 2 to 0; needed of 500 in the currency"
                + " 3; whyNot of closing; ifClosed;", c -> {
            TravelPurses x = Scenes.withHome(3000);
            x.lock(0, 1);
            x.lock(1, 2);
            x.lock(2, 3);
            x.quote(1, 700);
            x.quote(2, 800);
            x.quote(3, 900);
            x.load(3, 900);
            x.hold(3, 0, 30);
            same(c, "wallets with rates of their own", x);
        });
        edges.of("for each hold its properties 0 to 4", c -> {
            same(c, "a hold", Scenes.withHolds(1));
            same(c, "eight holds", Scenes.withHolds(8));
            TravelPurses x = Scenes.withHolds(8);
            x.letGo(0);
            same(c, "seven of eight holds", x);
        });
        edges.of("for each payment its properties 0 to 5", c -> {
            same(c, "a payment", Scenes.withPayments(1));
            TravelPurses x = Scenes.withPayments(12);
            x.dispute(3);
            x.decide(3, true);
            x.dispute(11);
            same(c, "twelve payments", x);
            TravelPurses y = Scenes.withPayments(12);
            y.undo();
            same(c, "eleven of twelve payments, and a hold", y);
        });
        edges.of("the length of the buffer and each of its character codes.", c -> {
            same(c, "an empty buffer", Scenes.withText(""));
            same(c, "a character", Scenes.withText("!"), 33);
            same(c, "two characters", Scenes.withText("~l"), 126, 'l');
            int[] codes = new int[60];
            TravelPurses x = new TravelPurses();
            for (int i = 0; i < 60; i++) {
                codes[i] = 126 - i;
                x.append(codes[i]);
            }
            same(c, "a full buffer", x, codes);
            x.clearBuffer();
            c.is("a cleared buffer", x.digest(), new TravelPurses().digest());
            differ(c, "last character", Scenes.withText("ab"), Scenes.withText("ac"));
            differ(c, "order", Scenes.withText("ab"), Scenes.withText("ba"));
        });
    }
}
