/** Promises 14 to 17: append, clearBuffer, firstError, run. */
public final class TextTest {
    private static final Check CHECK = new Check("TextTest");

    public static void main(String[] args) {
        append();
        clearBuffer();
        firstError();
        firstErrorOfAnyCharacter();
        run();
        runStops();
        runRefused();
        longestRow();
        CHECK.end();
    }

    private static void append() {
        TravelPurses x = new TravelPurses();
        CHECK.is("the least code", x.append(33), 1);
        CHECK.is("the greatest code", x.append(126), 2);
        CHECK.fails("code 32", Check.WRONG, x, () -> x.append(32));
        CHECK.fails("code 127", Check.WRONG, x, () -> x.append(127));
        CHECK.fails("code -1", Check.WRONG, x, () -> x.append(-1));
        for (int i = 3; i <= 60; i++) {
            CHECK.is("length", x.append('a'), i);
        }
        CHECK.fails("a full buffer", Check.REFUSED, x, () -> x.append('a'));
        CHECK.fails("wrong code ahead of it", Check.WRONG, x, () -> x.append(32));
        CHECK.is("no state is saved", x.count(13), 0);
    }

    private static void clearBuffer() {
        TravelPurses x = new TravelPurses();
        Check.type(x, "l0+");
        CHECK.is("the length that it had", x.clearBuffer(), 3);
        CHECK.is("nothing left", x.clearBuffer(), 0);
        CHECK.is("begins anew", x.append('l'), 1);
        CHECK.is("no state is saved", x.count(13), 0);
    }

    private static void errorAt(String text, int due) {
        TravelPurses x = new TravelPurses();
        Check.type(x, text);
        long before = x.digest();
        CHECK.is("firstError of " + text, x.firstError(), due);
        CHECK.is("digest after firstError", x.digest(), before);
    }

    private static void firstError() {
        String[] good = {"", "l", "l3", "l3+", "l0+1", "l0+99999", "x", "x1", "x12", "x120",
            "x333:", "x000:7", "h", "h2", "h21", "h21:", "h00:10000", "l0+1;", "l0+1;x",
            "h33:10;l1+20;x123:405"};
        for (String text : good) {
            errorAt(text, text.length());
        }
        String[] badAtEnd = {";", "+", "0", "a", "L", "ll", "l4", "l/", "l0:", "l00", "l0+0",
            "l0+;", "l0++", "l0+100000", "l0+1:", "l0+1l", "x4", "x04", "x004", "x00:", "x000+",
            "x0000", "x000:0", "x000:;", "x000:123456", "h4", "h04", "h0:", "h000", "h00+",
            "h00:0", "h00:;", "l0+1;;", "l0+1;1", "h00:1;l4", "l1+1,", "l1+1/"};
        for (String text : badAtEnd) {
            errorAt(text, text.length() - 1);
        }
        errorAt("l9+1;l9", 1);
        errorAt("l0+1;zzz", 5);
        errorAt("l0+012", 3);
    }

    private static void firstErrorOfAnyCharacter() {
        String[] prefixes = {"", "l", "l0", "l0+", "l0+1", "l0+12345", "l0+1;", "x1", "x12",
            "x120", "x120:", "h1", "h12", "h12:", "h12:5"};
        String[] next = {"lxh", "0123", "+", "123456789", "0123456789;", ";", "lxh", "0123",
            "0123", ":", "123456789", "0123", ":", "123456789", "0123456789;"};
        for (int i = 0; i < prefixes.length; i++) {
            int length = prefixes[i].length();
            for (char c = 33; c <= 126; c++) {
                errorAt(prefixes[i] + c, next[i].indexOf(c) >= 0 ? length + 1 : length);
            }
        }
    }

    private static void run() {
        TravelPurses x = new TravelPurses();
        CHECK.is("three orders", Check.runText(x, "l2+5000;x201:1000;h21:100"), 3);
        CHECK.is("loaded", x.count(4), 5000);
        CHECK.is("home money", x.purse(2, 0, 0), 4000);
        CHECK.is("other money", x.purse(2, 1, 0), 990);
        CHECK.is("held", x.held(0, 3), 120);
        CHECK.is("wallet of the hold", x.held(0, 0), 2);
        CHECK.is("currency of the hold", x.held(0, 1), 1);
        CHECK.is("the buffer is cleared", x.clearBuffer(), 0);
        CHECK.is("one state is saved", x.count(13), 1);
        CHECK.is("one order", Check.runText(x, "x210:7"), 1);
        CHECK.is("home money", x.purse(2, 0, 0), 4007);
        Check.type(x, "h20:1");
        x.undo();
        CHECK.is("home money before it", x.purse(2, 0, 0), 4000);
        x.undo();
        CHECK.is("all of a run is undone", x.count(4), 0);
        CHECK.is("the buffer stays through undo", x.clearBuffer(), 5);
    }

    private static void runStops() {
        TravelPurses x = new TravelPurses();
        CHECK.is("the first one is refused", Check.runText(x, "x001:5;l0+10"), 0);
        CHECK.is("those behind it are left", x.purse(0, 0, 0), 0);
        CHECK.is("saved all the same", x.count(13), 1);
        CHECK.is("cleared all the same", x.clearBuffer(), 0);
        CHECK.is("the second one is refused", Check.runText(x, "l0+10;h00:10;l0+7"), 1);
        CHECK.is("the first one stands", x.purse(0, 0, 0), 10);
        CHECK.is("currencies that are no pair", Check.runText(x, "l0+1;x000:1;l0+1"), 1);
        CHECK.is("none of both is 0", Check.runText(x, "x012:1"), 0);
        for (int i = 0; i < 10; i++) {
            x.load(1, 99999);
        }
        CHECK.is("a load above the bound", Check.runText(x, "l1+10;l1+1;l0+1"), 1);
        CHECK.is("up to the bound", x.purse(1, 0, 0), 1000000);
        CHECK.is("eight holds", Check.runText(x, "h10:1" + ";h10:1".repeat(8)), 8);
        CHECK.is("the second digit is where from", Check.runText(x, "x110:1"), 0);
        CHECK.is("the third digit is where to", Check.runText(x, "x103:10"), 1);
        CHECK.is("it came in", x.purse(1, 3, 0), 20);
    }

    private static void runRefused() {
        TravelPurses x = new TravelPurses();
        String[] wrong = {"", "l", "l0", "l0+", "l0+1;", "l0+0", "x01:5", "h00:", "z", "l0+1;x",
            "l0+1;;l0+1", "l0+1;l4+1"};
        for (String text : wrong) {
            Check.type(x, text);
            CHECK.fails("run of " + text, Check.WRONG, x, () -> x.run());
            CHECK.is("the buffer stays", x.clearBuffer(), text.length());
        }
        CHECK.is("no state is saved", x.count(13), 0);
    }

    private static void longestRow() {
        TravelPurses x = new TravelPurses();
        Check.type(x, "l0+111" + ";l0+1".repeat(10) + ";l0+");
        CHECK.is("a longer row would begin so", x.firstError(), 60);
        CHECK.fails("which is no complete one", Check.WRONG, x, () -> x.run());
        CHECK.is("60 characters", x.clearBuffer(), 60);
        CHECK.is("twelve orders", Check.runText(x, "l0+11" + ";l0+1".repeat(11)), 12);
        CHECK.is("their money", x.purse(0, 0, 0), 22);
    }
}
