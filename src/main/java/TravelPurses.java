/**
 * Prepaid travel wallets. ../shared/DOC.md says what each call does, answers and throws.
 *
 * <p>This class looks at the arguments, throws what the document names, saves states and reads
 * orders; the money itself is kept by {@link Books}.
 */
public final class TravelPurses {
    public static final int NONE = -1;

    private static final int WALLETS = 4;
    private static final int CURRENCIES = 4;
    private static final int HOME = 0;
    private static final int MOST_AMOUNT = 99999;
    private static final int MOST_NEEDED = 9999;
    private static final int MOST_HOME = 1000000;
    private static final int LEAST_RATE = 100;
    private static final int MOST_RATE = 2000;
    private static final int MOST_DAYS = 60;
    private static final int LAST_DAY = 5000;
    private static final int MOST_HOLDS = 8;
    private static final int MOST_PAYMENTS = 12;
    private static final int MOST_SAVED = 6;
    private static final int MOST_CHARACTERS = 60;

    private static final int SETTINGS = 4;
    private static final int LOCK_DAYS = 0;
    private static final int SPREAD = 1;
    private static final int TIP = 2;
    private static final int HOLD_DAYS = 3;
    private static final int[] FIRST_SETTINGS = {7, 10, 20, 5};
    private static final int[] MOST_SETTINGS = {60, 100, 50, 60};
    /** Home money costs 1000 of itself, so that it needs no case of its own. */
    private static final int[] FIRST_RATES = {1000, 1000, 1500, 500};

    private static final int PLAIN = 0;
    private static final int DISPUTED = 1;
    private static final int WON = 2;
    private static final int LOST = 3;
    private static final int DISPUTE_DAYS = 30;

    private static final int NO_REASON = 0;
    private static final int WRONG_PAIR = 1;
    private static final int TOO_LITTLE_FREE = 2;
    private static final int TOO_MANY_HOLDS = 3;
    private static final int HAS_HOLDS = 4;
    private static final int HAS_DISPUTES = 5;
    private static final int HAS_DEBT = 6;

    private static final int WHY_EXCHANGE = 0;
    private static final int WHY_HOLD = 1;
    private static final int WHY_CLOSE = 2;

    /** A power of two above half of the greatest amount: where a search by halves starts. */
    private static final int FIRST_STEP = 65536;

    private static final int PURSE_PROPERTIES = 8;
    private static final int HOLD_PROPERTIES = 5;
    private static final int PAYMENT_PROPERTIES = 6;
    private static final int COUNTS = 14;
    private static final long DIGEST_START = 2551L;

    private final Books books;
    /** All made at once and written over again, since what is given up is never collected. */
    private final Books[] saved;
    private int savedStates;
    private final int[] buffer;
    private int bufferLength;
    private final OrderReader reader;

    public TravelPurses() {
        books = new Books();
        saved = new Books[MOST_SAVED];
        for (int i = 0; i < saved.length; i++) {
            saved[i] = new Books();
        }
        buffer = new int[MOST_CHARACTERS];
        reader = new OrderReader();
    }

    // ---- money, rates

    public int load(int wallet, int amount)
            throws IndexOutOfBoundsException, IllegalArgumentException, IllegalStateException {
        Purse home = purseAt(wallet, HOME);
        requireAmount(amount);
        if (!books.mayLoad(home, amount)) {
            throw new IllegalStateException("too much home money");
        }
        saveState();
        books.addLoad(home, amount);
        return home.balance;
    }

    public int quote(int currency, int rate)
            throws IndexOutOfBoundsException, IllegalArgumentException {
        if (currency <= HOME || currency >= CURRENCIES) {
            throw new IndexOutOfBoundsException("no such foreign currency");
        }
        if (rate < LEAST_RATE || rate > MOST_RATE) {
            throw new IllegalArgumentException("rate out of range");
        }
        saveState();
        int previous = books.rates[currency];
        books.rates[currency] = rate;
        return previous;
    }

    public int lock(int wallet, int currency) throws IndexOutOfBoundsException {
        Purse purse = foreignPurseAt(wallet, currency);
        saveState();
        purse.lockedRate = books.rates[purse.currency];
        purse.lockEnd = books.day + books.settings[LOCK_DAYS];
        return purse.lockEnd;
    }

    public int exchange(int wallet, int from, int to, int amount)
            throws IndexOutOfBoundsException, IllegalArgumentException, IllegalStateException {
        Purse source = purseAt(wallet, from);
        Purse target = purseAt(wallet, to);
        requireAmount(amount);
        if (books.exchangeReason(source, target, amount) != NO_REASON) {
            throw new IllegalStateException("the exchange is refused");
        }
        saveState();
        return books.convert(source, target, amount);
    }

    // ---- holds, payments

    public int hold(int wallet, int currency, int amount)
            throws IndexOutOfBoundsException, IllegalArgumentException, IllegalStateException {
        Purse purse = purseAt(wallet, currency);
        requireAmount(amount);
        if (books.holdReason(purse, amount) != NO_REASON) {
            throw new IllegalStateException("the hold is refused");
        }
        saveState();
        return books.addHold(purse, amount);
    }

    public int pay(int hold, int amount)
            throws IndexOutOfBoundsException, IllegalArgumentException, IllegalStateException {
        Hold open = holdAt(hold);
        if (amount < 1) {
            throw new IllegalArgumentException("amount below 1");
        }
        if (amount > open.keeps || books.paymentCount >= MOST_PAYMENTS) {
            throw new IllegalStateException("the payment is refused");
        }
        saveState();
        Purse purse = purseAt(open.wallet, open.currency);
        purse.balance -= amount;
        books.dropHold(hold);
        return books.addPayment(purse, amount);
    }

    public int letGo(int hold) throws IndexOutOfBoundsException {
        int keeps = holdAt(hold).keeps;
        saveState();
        books.dropHold(hold);
        return keeps;
    }

    public int dispute(int payment) throws IndexOutOfBoundsException, IllegalStateException {
        Payment paid = paymentAt(payment);
        if (!books.mayDispute(paid)) {
            throw new IllegalStateException("not plain, or too old");
        }
        saveState();
        Purse purse = purseAt(paid.wallet, paid.currency);
        paid.status = DISPUTED;
        books.takeIn(purse, paid.amount);
        return purse.balance;
    }

    public int decide(int payment, boolean isWon)
            throws IndexOutOfBoundsException, IllegalStateException {
        Payment paid = paymentAt(payment);
        if (paid.status != DISPUTED) {
            throw new IllegalStateException("not disputed");
        }
        saveState();
        if (isWon) {
            paid.status = WON;
            return 0;
        }
        paid.status = LOST;
        return books.takeBack(purseAt(paid.wallet, paid.currency), paid.amount);
    }

    public int close(int wallet) throws IndexOutOfBoundsException, IllegalStateException {
        Purse home = purseAt(wallet, HOME);
        if (books.closingReason(wallet) != NO_REASON) {
            throw new IllegalStateException("the closing is refused");
        }
        saveState();
        for (int currency = HOME + 1; currency < CURRENCIES; currency++) {
            Purse purse = purseAt(wallet, currency);
            if (purse.balance > 0) {
                books.convert(purse, home, purse.balance);
            }
            purse.lockEnd = NONE;
        }
        return books.payOut(home);
    }

    public int pass(int days) throws IllegalArgumentException, IllegalStateException {
        if (days < 1 || days > MOST_DAYS) {
            throw new IllegalArgumentException("days out of range");
        }
        if (books.day + days > LAST_DAY) {
            throw new IllegalStateException("the day would be too late");
        }
        saveState();
        books.day += days;
        return books.dropOldHolds();
    }

    public int set(int setting, int value)
            throws IndexOutOfBoundsException, IllegalArgumentException {
        if (setting < 0 || setting >= SETTINGS) {
            throw new IndexOutOfBoundsException("no such setting");
        }
        if (value < 0 || value > MOST_SETTINGS[setting]) {
            throw new IllegalArgumentException("value out of range");
        }
        saveState();
        int previous = books.settings[setting];
        books.settings[setting] = value;
        return previous;
    }

    // ---- texts

    public int append(int code) throws IllegalArgumentException, IllegalStateException {
        if (code < 33 || code > 126) {
            throw new IllegalArgumentException("code out of range");
        }
        if (bufferLength >= buffer.length) {
            throw new IllegalStateException("the buffer is full");
        }
        buffer[bufferLength] = code;
        bufferLength++;
        return bufferLength;
    }

    public int clearBuffer() {
        int length = bufferLength;
        bufferLength = 0;
        return length;
    }

    public int firstError() {
        reader.startOrder();
        for (int i = 0; i < bufferLength; i++) {
            if (!reader.reads(buffer[i])) {
                return i;
            }
        }
        return bufferLength;
    }

    public int run() throws IllegalArgumentException {
        if (firstError() < bufferLength || !reader.isOrderWhole()) {
            throw new IllegalArgumentException("not a complete row of orders");
        }
        saveState();
        int carriedOut = carryOutRow();
        bufferLength = 0;
        return carriedOut;
    }

    public int undo() throws IllegalStateException {
        if (savedStates < 1) {
            throw new IllegalStateException("no saved state");
        }
        savedStates--;
        books.copyFrom(saved[savedStates]);
        return savedStates;
    }

    // ---- what there is

    public int purse(int wallet, int currency, int what)
            throws IndexOutOfBoundsException, IllegalArgumentException {
        Purse purse = purseAt(wallet, currency);
        switch (what) {
            case 0:
                return purse.balance;
            case 1:
                return books.keptIn(purse);
            case 2:
                return books.freeOf(purse);
            case 3:
                return purse.debt;
            case 4:
                return books.rateOf(purse);
            case 5:
                return books.isLocked(purse) ? purse.lockEnd : NONE;
            case 6:
                return books.creditIn(purse);
            case 7:
                return books.paidFrom(purse);
            default:
                throw new IllegalArgumentException("no such property");
        }
    }

    public int held(int hold, int what)
            throws IndexOutOfBoundsException, IllegalArgumentException {
        Hold open = holdAt(hold);
        switch (what) {
            case 0:
                return open.wallet;
            case 1:
                return open.currency;
            case 2:
                return open.amount;
            case 3:
                return open.keeps;
            case 4:
                return open.day;
            default:
                throw new IllegalArgumentException("no such property");
        }
    }

    public int payment(int payment, int what)
            throws IndexOutOfBoundsException, IllegalArgumentException {
        Payment paid = paymentAt(payment);
        switch (what) {
            case 0:
                return paid.wallet;
            case 1:
                return paid.currency;
            case 2:
                return paid.amount;
            case 3:
                return paid.day;
            case 4:
                return paid.status;
            case 5:
                return books.mayDispute(paid) ? 1 : 0;
            default:
                throw new IllegalArgumentException("no such property");
        }
    }

    public int count(int what) throws IllegalArgumentException {
        switch (what) {
            case 0:
                return books.day;
            case 1:
                return books.openHolds;
            case 2:
                return books.paymentCount;
            case 3:
                return books.disputedPayments();
            case 4:
                return books.loaded;
            case 5:
                return books.paidOut;
            case 6:
                return books.exchanges;
            case 7:
                return books.homeSpread;
            case 8:
                return books.otherSpread;
            case 9:
            case 10:
            case 11:
                return books.rates[what - 8];
            case 12:
                return books.debtPaid;
            case 13:
                return savedStates;
            default:
                throw new IllegalArgumentException("no such number");
        }
    }

    public int setting(int setting) throws IndexOutOfBoundsException {
        if (setting < 0 || setting >= SETTINGS) {
            throw new IndexOutOfBoundsException("no such setting");
        }
        return books.settings[setting];
    }

    // ---- what would be; nothing is changed

    public int ifExchanged(int wallet, int from, int to, int amount)
            throws IndexOutOfBoundsException, IllegalArgumentException {
        Purse source = purseAt(wallet, from);
        Purse target = purseAt(wallet, to);
        requireAmount(amount);
        return books.isPair(source, target) ? books.netOf(source, target, amount) : NONE;
    }

    public int needed(int wallet, int currency, int amount)
            throws IndexOutOfBoundsException, IllegalArgumentException {
        Purse target = foreignPurseAt(wallet, currency);
        if (amount < 1 || amount > MOST_NEEDED) {
            throw new IllegalArgumentException("amount out of range");
        }
        Purse home = purseAt(wallet, HOME);
        int tooLittle = 0;
        for (int step = FIRST_STEP; step > 0; step /= 2) {
            if (books.netOf(home, target, tooLittle + step) < amount) {
                tooLittle += step;
            }
        }
        return tooLittle + 1;
    }

    public int room(int wallet, int currency) throws IndexOutOfBoundsException {
        int free = books.freeOf(purseAt(wallet, currency));
        int enoughFor = 0;
        for (int step = FIRST_STEP; step > 0; step /= 2) {
            int tried = enoughFor + step;
            if (tried <= MOST_AMOUNT && books.withTip(tried) <= free) {
                enoughFor = tried;
            }
        }
        return enoughFor;
    }

    public int whyNot(int what, int wallet, int currency, int other, int amount)
            throws IndexOutOfBoundsException, IllegalArgumentException {
        Purse first = purseAt(wallet, currency);
        Purse second = purseAt(wallet, other);
        requireAmount(amount);
        switch (what) {
            case WHY_EXCHANGE:
                return books.exchangeReason(first, second, amount);
            case WHY_HOLD:
                return books.holdReason(first, amount);
            case WHY_CLOSE:
                return books.closingReason(wallet);
            default:
                throw new IllegalArgumentException("no such question");
        }
    }

    public int ifClosed(int wallet) throws IndexOutOfBoundsException {
        Purse home = purseAt(wallet, HOME);
        if (books.closingReason(wallet) != NO_REASON) {
            return NONE;
        }
        int paidOut = home.balance;
        for (int currency = HOME + 1; currency < CURRENCIES; currency++) {
            Purse purse = purseAt(wallet, currency);
            paidOut += books.netOf(purse, home, purse.balance);
        }
        return paidOut;
    }

    public double heldShare(int wallet, int currency) throws IndexOutOfBoundsException {
        Purse purse = purseAt(wallet, currency);
        if (purse.balance == 0) {
            return 0.0;
        }
        return (double) books.keptIn(purse) / (double) purse.balance;
    }

    public long digest() {
        long hash = DIGEST_START;
        for (int what = 0; what < COUNTS; what++) {
            hash = mix(hash, count(what));
        }
        for (int i = 0; i < SETTINGS; i++) {
            hash = mix(hash, setting(i));
        }
        for (int wallet = 0; wallet < WALLETS; wallet++) {
            hash = mixWallet(hash, wallet);
        }
        hash = mixHolds(hash);
        hash = mixPayments(hash);
        return mixBuffer(hash);
    }

    // ---- arguments

    private Purse purseAt(int wallet, int currency) throws IndexOutOfBoundsException {
        if (wallet < 0 || wallet >= WALLETS || currency < 0 || currency >= CURRENCIES) {
            throw new IndexOutOfBoundsException("no such wallet or currency");
        }
        return books.purses[wallet * CURRENCIES + currency];
    }

    private Purse foreignPurseAt(int wallet, int currency) throws IndexOutOfBoundsException {
        if (currency == HOME) {
            throw new IndexOutOfBoundsException("home money has no rate");
        }
        return purseAt(wallet, currency);
    }

    private Hold holdAt(int hold) throws IndexOutOfBoundsException {
        if (hold < 0 || hold >= books.openHolds || hold >= books.holds.length) {
            throw new IndexOutOfBoundsException("no such hold");
        }
        return books.holds[hold];
    }

    private Payment paymentAt(int payment) throws IndexOutOfBoundsException {
        if (payment < 0 || payment >= books.paymentCount || payment >= books.payments.length) {
            throw new IndexOutOfBoundsException("no such payment");
        }
        return books.payments[payment];
    }

    private void requireAmount(int amount) throws IllegalArgumentException {
        if (amount < 1 || amount > MOST_AMOUNT) {
            throw new IllegalArgumentException("amount out of range");
        }
    }

    // ---- saved states and orders

    private void saveState() {
        if (savedStates >= saved.length) {
            dropOldestState();
        }
        saved[savedStates].copyFrom(books);
        savedStates++;
    }

    /** The dropped one goes to the end, to be written over. */
    private void dropOldestState() {
        Books oldest = saved[0];
        for (int i = 1; i < saved.length; i++) {
            saved[i - 1] = saved[i];
        }
        saved[saved.length - 1] = oldest;
        savedStates = saved.length - 1;
    }

    /** The buffer is known to be a complete row, so each ";" and its end stand behind an order. */
    private int carryOutRow() {
        int carriedOut = 0;
        reader.startOrder();
        for (int i = 0; i < bufferLength; i++) {
            if (buffer[i] == ';') {
                if (!carriesOutOrder()) {
                    return carriedOut;
                }
                carriedOut++;
            }
            reader.reads(buffer[i]);
        }
        return carriesOutOrder() ? carriedOut + 1 : carriedOut;
    }

    /** Carries out the order that was read, or tells that its method would throw an exception. */
    private boolean carriesOutOrder() {
        Purse first = purseAt(reader.wallet, reader.first);
        int amount = reader.amount;
        switch (reader.sign) {
            case 'l':
                if (!books.mayLoad(first, amount)) {
                    return false;
                }
                books.addLoad(first, amount);
                return true;
            case 'x':
                Purse second = purseAt(reader.wallet, reader.second);
                if (books.exchangeReason(first, second, amount) != NO_REASON) {
                    return false;
                }
                books.convert(first, second, amount);
                return true;
            default:
                if (books.holdReason(first, amount) != NO_REASON) {
                    return false;
                }
                books.addHold(first, amount);
                return true;
        }
    }

    // ---- parts of the digest

    private static long mix(long hash, long value) {
        return 31 * hash + value;
    }

    private long mixWallet(long start, int wallet) {
        long hash = start;
        for (int currency = 0; currency < CURRENCIES; currency++) {
            for (int what = 0; what < PURSE_PROPERTIES; what++) {
                hash = mix(hash, purse(wallet, currency, what));
            }
            hash = mix(hash, room(wallet, currency));
            hash = mix(hash, bitsOfShare(heldShare(wallet, currency)));
        }
        hash = mix(hash, ifExchanged(wallet, 0, 1, 1000));
        hash = mix(hash, ifExchanged(wallet, 2, 0, 1000));
        hash = mix(hash, needed(wallet, 3, 500));
        hash = mix(hash, books.closingReason(wallet));
        return mix(hash, ifClosed(wallet));
    }

    private long mixHolds(long start) {
        long hash = start;
        for (int hold = 0; hold < books.openHolds; hold++) {
            for (int what = 0; what < HOLD_PROPERTIES; what++) {
                hash = mix(hash, held(hold, what));
            }
        }
        return hash;
    }

    private long mixPayments(long start) {
        long hash = start;
        for (int paid = 0; paid < books.paymentCount; paid++) {
            for (int what = 0; what < PAYMENT_PROPERTIES; what++) {
                hash = mix(hash, payment(paid, what));
            }
        }
        return hash;
    }

    private long mixBuffer(long start) {
        long hash = mix(start, bufferLength);
        for (int i = 0; i < bufferLength; i++) {
            hash = mix(hash, buffer[i]);
        }
        return hash;
    }

    /**
     * The bits of a double from 0 to 1. Double.doubleToLongBits is not in the part of the library
     * that LANGUAGE.md leaves; doubling, and taking away 1 from what is below 2, lose nothing.
     */
    private static long bitsOfShare(double share) {
        if (share <= 0.0) {
            return 0L;
        }
        double scaled = share;
        long exponent = 1023L;
        while (scaled < 1.0 && exponent > 1L) {
            scaled = scaled * 2.0;
            exponent--;
        }
        long fraction = (long) ((scaled - 1.0) * 4503599627370496.0);
        return (exponent << 52) | fraction;
    }

    /** What a wallet has in one currency. */
    private static final class Purse {
        final int wallet;
        final int currency;
        int balance;
        int debt;
        int lockedRate;
        /** The last day on which the locked rate counts, NONE if there is no lock. */
        int lockEnd;

        Purse(int wallet, int currency) {
            this.wallet = wallet;
            this.currency = currency;
            lockEnd = NONE;
        }

        void copyFrom(Purse other) {
            balance = other.balance;
            debt = other.debt;
            lockedRate = other.lockedRate;
            lockEnd = other.lockEnd;
        }
    }

    /** Money that is kept in a purse for a payment. */
    private static final class Hold {
        int wallet;
        int currency;
        int amount;
        int keeps;
        int day;

        boolean isIn(Purse purse) {
            return wallet == purse.wallet && currency == purse.currency;
        }

        void copyFrom(Hold other) {
            wallet = other.wallet;
            currency = other.currency;
            amount = other.amount;
            keeps = other.keeps;
            day = other.day;
        }
    }

    /** Money that was taken out of a hold. */
    private static final class Payment {
        int wallet;
        int currency;
        int amount;
        int day;
        int status;

        boolean isOutOf(Purse purse) {
            return wallet == purse.wallet && currency == purse.currency;
        }

        void copyFrom(Payment other) {
            wallet = other.wallet;
            currency = other.currency;
            amount = other.amount;
            day = other.day;
            status = other.status;
        }
    }

    /** All that undo brings back: the money, the days, the settings, and what is counted. */
    private static final class Books {
        int day;
        final int[] settings = FIRST_SETTINGS.clone();
        final int[] rates = FIRST_RATES.clone();
        final Purse[] purses = new Purse[WALLETS * CURRENCIES];
        final Hold[] holds = new Hold[MOST_HOLDS];
        int openHolds;
        final Payment[] payments = new Payment[MOST_PAYMENTS];
        int paymentCount;
        int loaded;
        int paidOut;
        int exchanges;
        int homeSpread;
        int otherSpread;
        int debtPaid;

        Books() {
            for (int i = 0; i < purses.length; i++) {
                purses[i] = new Purse(i / CURRENCIES, i % CURRENCIES);
            }
            for (int i = 0; i < holds.length; i++) {
                holds[i] = new Hold();
            }
            for (int i = 0; i < payments.length; i++) {
                payments[i] = new Payment();
            }
        }

        void copyFrom(Books other) {
            day = other.day;
            System.arraycopy(other.settings, 0, settings, 0, settings.length);
            System.arraycopy(other.rates, 0, rates, 0, rates.length);
            for (int i = 0; i < purses.length; i++) {
                purses[i].copyFrom(other.purses[i]);
            }
            openHolds = other.openHolds;
            for (int i = 0; i < openHolds; i++) {
                holds[i].copyFrom(other.holds[i]);
            }
            paymentCount = other.paymentCount;
            for (int i = 0; i < paymentCount; i++) {
                payments[i].copyFrom(other.payments[i]);
            }
            loaded = other.loaded;
            paidOut = other.paidOut;
            exchanges = other.exchanges;
            homeSpread = other.homeSpread;
            otherSpread = other.otherSpread;
            debtPaid = other.debtPaid;
        }

        // ---- money that comes and goes

        /** What comes in pays debt ahead of all else. */
        void takeIn(Purse purse, int money) {
            int forDebt = Math.min(purse.debt, money);
            purse.debt -= forDebt;
            debtPaid += forDebt;
            purse.balance += money - forDebt;
        }

        /** Takes credit back out of what is free, and answers what becomes debt. */
        int takeBack(Purse purse, int credit) {
            int taken = Math.min(freeOf(purse), credit);
            purse.balance -= taken;
            purse.debt += credit - taken;
            return credit - taken;
        }

        boolean mayLoad(Purse home, int amount) {
            return home.balance <= MOST_HOME - amount;
        }

        void addLoad(Purse home, int amount) {
            loaded += amount;
            takeIn(home, amount);
        }

        int payOut(Purse home) {
            int money = home.balance;
            home.balance = 0;
            paidOut += money;
            return money;
        }

        int freeOf(Purse purse) {
            return purse.balance - keptIn(purse);
        }

        int keptIn(Purse purse) {
            int kept = 0;
            for (int i = 0; i < openHolds; i++) {
                if (holds[i].isIn(purse)) {
                    kept += holds[i].keeps;
                }
            }
            return kept;
        }

        // ---- rates and exchanges

        boolean isLocked(Purse purse) {
            return purse.lockEnd >= day;
        }

        int rateOf(Purse purse) {
            return isLocked(purse) ? purse.lockedRate : rates[purse.currency];
        }

        boolean isPair(Purse source, Purse target) {
            return source.currency != target.currency
                    && (source.currency == HOME || target.currency == HOME);
        }

        /** Closing exchanges more than 99999 at once, so that an int would be too narrow here. */
        long grossOf(Purse source, Purse target, int amount) {
            if (target.currency == HOME) {
                return (long) amount * rateOf(source) / 1000L;
            }
            int rate = rateOf(target);
            return rate > 0 ? amount * 1000L / rate : 0L;
        }

        int spreadOf(long gross) {
            return (int) (gross * settings[SPREAD] / 1000L);
        }

        int netOf(Purse source, Purse target, int amount) {
            long gross = grossOf(source, target, amount);
            return (int) gross - spreadOf(gross);
        }

        /** Exchanges what is known to be free, and answers what comes into the other purse. */
        int convert(Purse source, Purse target, int amount) {
            long gross = grossOf(source, target, amount);
            int spread = spreadOf(gross);
            int net = (int) gross - spread;
            exchanges++;
            if (target.currency == HOME) {
                homeSpread += spread;
            } else {
                otherSpread += spread;
            }
            source.balance -= amount;
            takeIn(target, net);
            return net;
        }

        // ---- reasons

        int exchangeReason(Purse source, Purse target, int amount) {
            if (!isPair(source, target)) {
                return WRONG_PAIR;
            }
            return freeOf(source) < amount ? TOO_LITTLE_FREE : NO_REASON;
        }

        int holdReason(Purse purse, int amount) {
            if (freeOf(purse) < withTip(amount)) {
                return TOO_LITTLE_FREE;
            }
            return openHolds >= MOST_HOLDS ? TOO_MANY_HOLDS : NO_REASON;
        }

        int closingReason(int wallet) {
            for (int i = 0; i < openHolds; i++) {
                if (holds[i].wallet == wallet) {
                    return HAS_HOLDS;
                }
            }
            for (int i = 0; i < paymentCount; i++) {
                if (payments[i].wallet == wallet && payments[i].status == DISPUTED) {
                    return HAS_DISPUTES;
                }
            }
            for (int i = 0; i < purses.length; i++) {
                if (purses[i].wallet == wallet && purses[i].debt > 0) {
                    return HAS_DEBT;
                }
            }
            return NO_REASON;
        }

        // ---- holds

        int withTip(int amount) {
            return amount + amount * settings[TIP] / 100;
        }

        int addHold(Purse purse, int amount) {
            if (openHolds >= holds.length) {
                return NONE;
            }
            Hold hold = holds[openHolds];
            hold.wallet = purse.wallet;
            hold.currency = purse.currency;
            hold.amount = amount;
            hold.keeps = withTip(amount);
            hold.day = day;
            openHolds++;
            return openHolds - 1;
        }

        /** The hold that is gone goes behind the open ones, to be written over. */
        void dropHold(int number) {
            if (number < 0 || number >= openHolds || openHolds > holds.length) {
                return;
            }
            Hold gone = holds[number];
            for (int i = number + 1; i < openHolds; i++) {
                holds[i - 1] = holds[i];
            }
            holds[openHolds - 1] = gone;
            openHolds--;
        }

        /** Going from the last to the first, what is dropped moves none that is still to come. */
        int dropOldHolds() {
            int gone = 0;
            for (int i = openHolds - 1; i >= 0; i--) {
                if (day - holds[i].day > settings[HOLD_DAYS]) {
                    dropHold(i);
                    gone++;
                }
            }
            return gone;
        }

        // ---- payments

        int addPayment(Purse purse, int amount) {
            if (paymentCount >= payments.length) {
                return NONE;
            }
            Payment payment = payments[paymentCount];
            payment.wallet = purse.wallet;
            payment.currency = purse.currency;
            payment.amount = amount;
            payment.day = day;
            payment.status = PLAIN;
            paymentCount++;
            return paymentCount - 1;
        }

        boolean mayDispute(Payment payment) {
            return payment.status == PLAIN && day - payment.day <= DISPUTE_DAYS;
        }

        int disputedPayments() {
            int disputed = 0;
            for (int i = 0; i < paymentCount; i++) {
                if (payments[i].status == DISPUTED) {
                    disputed++;
                }
            }
            return disputed;
        }

        int creditIn(Purse purse) {
            int credit = 0;
            for (int i = 0; i < paymentCount; i++) {
                if (payments[i].isOutOf(purse) && payments[i].status == DISPUTED) {
                    credit += payments[i].amount;
                }
            }
            return credit;
        }

        int paidFrom(Purse purse) {
            int paid = 0;
            for (int i = 0; i < paymentCount; i++) {
                if (payments[i].isOutOf(purse)) {
                    paid += payments[i].amount;
                }
            }
            return paid;
        }
    }

    /** Reads a row of orders, one character after the other. */
    private static final class OrderReader {
        /** 'l', 'x' or 'h'; 0 ahead of an order. */
        int sign;
        int wallet;
        /** The currency that is loaded, held, or exchanged. */
        int first;
        int second;
        /** 0 as long as none of its digits is read. */
        int amount;
        private int digitsRead;
        private boolean isMarked;

        void startOrder() {
            sign = 0;
            wallet = 0;
            first = HOME;
            second = HOME;
            amount = 0;
            digitsRead = 0;
            isMarked = false;
        }

        boolean isOrderWhole() {
            return amount > 0;
        }

        /** Reads a character if a row of orders can go on with it; tells whether it can. */
        boolean reads(int code) {
            if (sign == 0) {
                return readsSign(code);
            }
            if (digitsRead < digitsDue()) {
                return readsDigit(code);
            }
            if (!isMarked) {
                isMarked = code == (sign == 'l' ? '+' : ':');
                return isMarked;
            }
            if (code == ';' && isOrderWhole()) {
                startOrder();
                return true;
            }
            return readsAmount(code);
        }

        private boolean readsSign(int code) {
            if (code != 'l' && code != 'x' && code != 'h') {
                return false;
            }
            sign = code;
            return true;
        }

        private int digitsDue() {
            if (sign == 'l') {
                return 1;
            }
            return sign == 'x' ? 3 : 2;
        }

        /** Wallets and currencies are both 0 to 3. */
        private boolean readsDigit(int code) {
            if (code < '0' || code > '3') {
                return false;
            }
            int digit = code - '0';
            if (digitsRead == 0) {
                wallet = digit;
            } else if (digitsRead == 1) {
                first = digit;
            } else {
                second = digit;
            }
            digitsRead++;
            return true;
        }

        private boolean readsAmount(int code) {
            int least = isOrderWhole() ? '0' : '1';
            if (code < least || code > '9' || amount > MOST_AMOUNT / 10) {
                return false;
            }
            amount = amount * 10 + (code - '0');
            return true;
        }
    }
}
