import java.util.Arrays;

/** Promise 30: the digest, step by step, and with many shares. */
public final class DigestTest {
    private static final Check CHECK = new Check("DigestTest");

    public static void main(String[] args) {
        same("a new object", new TravelPurses());
        everyPartCounts();
        shares();
        CHECK.end();
    }

    private static void same(String what, TravelPurses x, int... codes) {
        CHECK.is("digest of " + what, x.digest(), DigestSum.of(x, codes));
    }

    /**
     * A sum of the digest takes some 230 of the 512 calls that are promised of an object: so each
     * state is made anew, by its first steps.
     */
    private static TravelPurses after(int steps) {
        TravelPurses x = new TravelPurses();
        for (int step = 1; step <= steps; step++) {
            switch (step) {
                case 1 -> x.load(1, 5000);
                case 2 -> x.exchange(1, 0, 1, 2000);
                case 3 -> x.hold(1, 1, 100);
                case 4 -> x.hold(1, 0, 700);
                case 5 -> x.pay(0, 50);
                case 6 -> x.dispute(0);
                case 7 -> x.pass(3);
                case 8 -> x.lock(1, 3);
                case 9 -> x.quote(3, 1999);
                case 10 -> x.set(2, 3);
                case 11 -> x.append('l');
                case 12 -> x.append('~');
                case 13 -> x.undo();
                default -> x.decide(0, false);
            }
        }
        return x;
    }

    private static void everyPartCounts() {
        for (int steps = 1; steps <= 14; steps++) {
            if (steps == 11) {
                same("step " + steps, after(steps), 'l');
            } else if (steps > 11) {
                same("step " + steps, after(steps), 'l', '~');
            } else {
                same("step " + steps, after(steps));
            }
        }
    }

    private static TravelPurses withHolds(int loaded, int... amounts) {
        TravelPurses x = new TravelPurses();
        x.set(2, 0);
        x.load(2, loaded);
        for (int amount : amounts) {
            x.hold(2, 0, amount);
        }
        return x;
    }

    private static void shares() {
        int[] amounts = {1, 2, 4095, 33333, 49998, 12570};
        for (int holds = 0; holds <= amounts.length; holds++) {
            same("a share of " + holds + " holds",
                    withHolds(99999, Arrays.copyOf(amounts, holds)));
        }
        same("all is held", withHolds(7, 7));
        same("a half", withHolds(2, 1));
        same("a third", withHolds(3, 1));
        same("a 64th", withHolds(64, 1));
        same("three 64ths", withHolds(64, 1, 2));
        same("all but one", withHolds(99999, 99998));
        same("the least of one load", withHolds(99999, 1));
    }
}
