/** Promise 30: the digest, summed up here once more from the answers of the other calls. */
public final class DigestTest {
    private static final Check CHECK = new Check("DigestTest");

    private long hash;

    public static void main(String[] args) {
        same("a new object", new TravelPurses());
        everyPartCounts();
        shares();
        CHECK.end();
    }

    private static void same(String what, TravelPurses x, int... codes) {
        CHECK.is("digest of " + what, x.digest(), new DigestTest().of(x, codes));
    }

    private static void everyPartCounts() {
        TravelPurses x = new TravelPurses();
        x.load(1, 5000);
        x.exchange(1, 0, 1, 2000);
        same("money", x);
        x.hold(1, 1, 100);
        x.hold(1, 0, 700);
        same("holds", x);
        x.pay(0, 50);
        x.dispute(0);
        same("a disputed payment", x);
        x.pass(3);
        x.lock(1, 3);
        x.quote(3, 1999);
        same("a lock", x);
        x.set(2, 3);
        same("a setting", x);
        x.append('l');
        x.append('~');
        same("a buffer", x, 'l', '~');
        x.undo();
        same("an undo", x, 'l', '~');
    }

    private static void shares() {
        TravelPurses x = new TravelPurses();
        x.set(2, 0);
        x.load(0, 99999);
        int[] amounts = {1, 2, 4095, 33333, 49998, 12570};
        for (int amount : amounts) {
            x.hold(0, 0, amount);
            same("a share of " + amount, x);
        }
        CHECK.isDouble("all is held", x.heldShare(0, 0), 1.0);
        x.load(0, 99999);
        same("a half", x);
        x.load(1, 64);
        x.hold(1, 0, 1);
        same("a 64th", x);
        x.hold(1, 0, 2);
        same("three 64ths", x);
    }

    private long of(TravelPurses x, int... codes) {
        hash = 2551;
        for (int what = 0; what <= 13; what++) {
            add(x.count(what));
        }
        for (int setting = 0; setting <= 3; setting++) {
            add(x.setting(setting));
        }
        for (int wallet = 0; wallet <= 3; wallet++) {
            for (int currency = 0; currency <= 3; currency++) {
                for (int what = 0; what <= 7; what++) {
                    add(x.purse(wallet, currency, what));
                }
                add(x.room(wallet, currency));
                add(Double.doubleToLongBits(x.heldShare(wallet, currency)));
            }
            add(x.ifExchanged(wallet, 0, 1, 1000));
            add(x.ifExchanged(wallet, 2, 0, 1000));
            add(x.needed(wallet, 3, 500));
            add(x.whyNot(2, wallet, 0, 0, 1));
            add(x.ifClosed(wallet));
        }
        for (int hold = 0; hold < x.count(1); hold++) {
            for (int what = 0; what <= 4; what++) {
                add(x.held(hold, what));
            }
        }
        for (int payment = 0; payment < x.count(2); payment++) {
            for (int what = 0; what <= 5; what++) {
                add(x.payment(payment, what));
            }
        }
        add(codes.length);
        for (int code : codes) {
            add(code);
        }
        return hash;
    }

    private void add(long value) {
        hash = 31 * hash + value;
    }
}
