import java.math.BigInteger;

/** The digest, summed up once more from what the other calls answer; it takes some 300 calls. */
final class DigestSum {
    private final TravelPurses x;
    private BigInteger hash = BigInteger.valueOf(2551);

    private DigestSum(TravelPurses x) {
        this.x = x;
    }

    /** The codes are those that the buffer has: no call tells them. */
    static long of(TravelPurses x, int... codes) {
        DigestSum sum = new DigestSum(x);
        sum.countsAndSettings();
        for (int wallet = 0; wallet <= 3; wallet++) {
            sum.wallet(wallet);
        }
        sum.holdsAndPayments();
        sum.add(codes.length);
        for (int code : codes) {
            sum.add(code);
        }
        return sum.hash.longValue();
    }

    /** Without an end to the number: longValue() takes its lowest 64 bits, as overflow does. */
    private void add(long value) {
        hash = hash.multiply(BigInteger.valueOf(31)).add(BigInteger.valueOf(value));
    }

    private void countsAndSettings() {
        for (int what = 0; what <= 13; what++) {
            add(x.count(what));
        }
        for (int setting = 0; setting <= 3; setting++) {
            add(x.setting(setting));
        }
    }

    private void wallet(int wallet) {
        for (int currency = 0; currency <= 3; currency++) {
            for (int what = 0; what <= 7; what++) {
                add(x.purse(wallet, currency, what));
            }
            add(x.room(wallet, currency));
            add(Double.doubleToLongBits(x.heldShare(wallet, currency)));
        }
        add(x.ifExchanged(wallet, 0, 1, 1000));
        add(x.ifExchanged(wallet, 2, 0, 1000));
        add(x.needed(wallet, 3, 500));
        add(x.whyNot(2, wallet, 0, 0, 1));
        add(x.ifClosed(wallet));
    }

    private void holdsAndPayments() {
        int holds = x.count(1);
        for (int hold = 0; hold < holds; hold++) {
            for (int what = 0; what <= 4; what++) {
                add(x.held(hold, what));
            }
        }
        int payments = x.count(2);
        for (int payment = 0; payment < payments; payment++) {
            for (int what = 0; what <= 5; what++) {
                add(x.payment(payment, what));
            }
        }
    }
}
