/** Compares answers with those that are due, and ends a test with exit code 1 if one differs. */
final class Check {
    interface Call {
        long answer();
    }

    interface CallWith {
        long answer(int value);
    }

    static final Class<IndexOutOfBoundsException> NO_SUCH = IndexOutOfBoundsException.class;
    static final Class<IllegalArgumentException> WRONG = IllegalArgumentException.class;
    static final Class<IllegalStateException> REFUSED = IllegalStateException.class;

    private static final long LONGEST_TEST = 300_000;

    private final String test;
    private String about = "";
    private int made;
    private int failed;

    Check(String test) {
        this.test = test;
        endIfItHangs();
    }

    /** A call that never ends has to fail its test, and not to keep it for ever. */
    private static void endIfItHangs() {
        Thread guard = new Thread(() -> {
            try {
                Thread.sleep(LONGEST_TEST);
            } catch (InterruptedException none) {
                return;
            }
            System.out.println("FAILED: not at its end after " + LONGEST_TEST / 1000 + " s");
            Runtime.getRuntime().halt(1);
        });
        guard.setDaemon(true);
        guard.start();
    }

    /** What the checks from here on are about; it is told ahead of each that fails. */
    void about(String newAbout) {
        about = newAbout.isEmpty() ? "" : newAbout + ": ";
    }

    int made() {
        return made;
    }

    void is(String what, long got, long due) {
        made++;
        if (got != due) {
            fail(what + " answered " + got + ", due is " + due);
        }
    }

    void isDouble(String what, double got, double due) {
        made++;
        if (Double.compare(got, due) != 0) {
            fail(what + " answered " + got + ", due is " + due);
        }
    }

    void isText(String what, String got, String due) {
        made++;
        if (!got.equals(due)) {
            fail(what + " answered " + got + ", due is " + due);
        }
    }

    /** The call has to throw exactly this class and to leave the object as it was. */
    void fails(String what, Class<? extends RuntimeException> due, TravelPurses x, Call call) {
        made++;
        long before = x.digest();
        String got;
        try {
            got = "answered " + call.answer();
        } catch (RuntimeException thrown) {
            got = thrown.getClass() == due ? "" : "threw " + thrown;
        }
        if (!got.isEmpty()) {
            fail(what + " " + got + ", due is " + due.getSimpleName());
        }
        is("digest after refused " + what, x.digest(), before);
    }

    /** The call has to fail so with each of these values. */
    void failsWith(Class<? extends RuntimeException> due, TravelPurses x, CallWith call,
            int... values) {
        for (int value : values) {
            fails("call with " + value, due, x, () -> call.answer(value));
        }
    }

    void fail(String what) {
        failed++;
        if (failed <= 50) {
            System.out.println(test + ": " + about + what);
        }
    }

    void end() {
        System.out.println(test + ": " + made + " checks, " + failed + " failed");
        if (failed > 0) {
            System.exit(1);
        }
    }

    static void type(TravelPurses x, String text) {
        for (int i = 0; i < text.length(); i++) {
            x.append(text.charAt(i));
        }
    }

    static int runText(TravelPurses x, String text) {
        type(x, text);
        return x.run();
    }
}
