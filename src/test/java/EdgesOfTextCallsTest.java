import java.io.IOException;

/** Sentences of the promises 14 to 18: append, clearBuffer, firstError, run, undo. */
public final class EdgesOfTextCallsTest {
    private static final int LEAST = Integer.MIN_VALUE;
    private static final int MOST = Integer.MAX_VALUE;
    private static final String LONGEST = "l0+11" + ";l0+1".repeat(11);

    private EdgesOfTextCallsTest() {
    }

    public static void main(String[] args) throws IOException {
        Edges edges = new Edges("EdgesOfTextCallsTest");
        append(edges);
        clearBuffer(edges);
        firstError(edges);
        run(edges);
        runStops(edges);
        undo(edges);
        edges.end();
    }

    private static void append(Edges edges) {
        edges.under("Promise 14: append");
        edges.of("Appends a character to the buffer.", c -> {
            TravelPurses x = Scenes.withText("l0+");
            long before = x.digest();
            x.append('5');
            c.is("it is the last one", x.run(), 1);
            c.is("it is what was appended", x.purse(0, 0, 0), 5);
            c.is("the digest tells it", before == x.digest() ? 1 : 0, 0);
        });
        edges.of("Appends a character to the buffer.", c -> {
            TravelPurses x = new TravelPurses();
            x.append('l');
            c.is("it is not undoable", x.count(13), 0);
            c.fails("so that there is nothing to undo", Check.REFUSED, x, () -> x.undo());
        });
        edges.of("`code`: the character code, 33 to 126", c -> {
            TravelPurses x = new TravelPurses();
            c.is("the least", x.append(33), 1);
            c.is("the greatest", x.append(126), 2);
        });
        edges.of("Throws `IllegalArgumentException` if code is not 33 to 126", c -> {
            TravelPurses x = Scenes.withText("l0");
            c.failsWith(Check.WRONG, x, code -> x.append(code), 32, 127, 0, -1, 128, 'l' + 256,
                    'l' + 65536, LEAST, MOST);
            c.is("the buffer is as it was", x.append('+'), 3);
        });
        edges.of("Returns the new length of the buffer.", c -> {
            TravelPurses x = new TravelPurses();
            for (int length = 1; length <= 60; length++) {
                c.is("length", x.append(33 + length), length);
            }
            x.clearBuffer();
            c.is("after clearBuffer", x.append('l'), 1);
            Check.type(x, "0+1");
            x.run();
            c.is("after run", x.append('l'), 1);
        });
        edges.of("Throws `IllegalStateException` if the buffer has 60 characters", c -> {
            TravelPurses x = Scenes.withText(LONGEST.substring(1));
            c.is("59 are none too many", x.append('1'), 60);
            c.failsWith(Check.REFUSED, x, code -> x.append(code), '1', 33, 126);
            c.is("60 are left", x.clearBuffer(), 60);
        });
    }

    private static void clearBuffer(Edges edges) {
        edges.under("Promise 15: clearBuffer");
        edges.of("Clears the buffer.", c -> {
            TravelPurses x = Scenes.withText("l0+1;");
            x.clearBuffer();
            c.is("no error", x.firstError(), 0);
            c.is("nothing is left ahead", Check.runText(x, "l0+3"), 1);
            c.is("of what is appended", x.purse(0, 0, 0), 3);
            x.clearBuffer();
            c.is("it is not undoable", x.count(13), 1);
        });
        edges.of("Returns the length that it had.", c -> {
            TravelPurses x = new TravelPurses();
            c.is("none", x.clearBuffer(), 0);
            x.append('~');
            c.is("one", x.clearBuffer(), 1);
            c.is("none again", x.clearBuffer(), 0);
            Check.type(x, LONGEST);
            c.is("the most", x.clearBuffer(), 60);
        });
    }

    private static void firstError(Edges edges) {
        edges.under("Promise 16: firstError");
        edges.of("Finds the first syntax error of the buffer.", c -> {
            TravelPurses x = Scenes.withText("l0+1;l0-1;y");
            long before = x.digest();
            c.is("the first of two", x.firstError(), 7);
            c.is("once more", x.firstError(), 7);
            c.is("nothing is changed", x.digest(), before);
        });
        edges.of("Returns the index of the first character that is a syntax error; the length of"
                + " the buffer if there is none.", c -> {
            c.is("an empty buffer", new TravelPurses().firstError(), 0);
            c.is("the first character", Scenes.withText("z").firstError(), 0);
            c.is("the only one is none", Scenes.withText("h").firstError(), 1);
            c.is("an incomplete row", Scenes.withText("l0+1;h3").firstError(), 7);
            c.is("a complete row", Scenes.withText("l0+1;h33:1").firstError(), 10);
            c.is("a full buffer", Scenes.withText(LONGEST).firstError(), 60);
            c.is("the last of a full buffer",
                    Scenes.withText(LONGEST.substring(0, 59) + "0").firstError(), 59);
        });
        edges.of("Returns the index of the first character that is a syntax error; the length of"
                + " the buffer if there is none.", c -> {
            TravelPurses x = new TravelPurses();
            c.is("what an order asks for does not matter",
                    Scenes.withText("x312:99999").firstError(), 10);
            Check.type(x, "l0+1");
            x.run();
            Check.type(x, "0");
            c.is("each buffer is read from its start", x.firstError(), 0);
        });
    }

    private static void run(Edges edges) {
        edges.under("Promise 17: run");
        String carriesOut = "Carries out the orders in the buffer as load(), exchange() and hold()"
                + " do, one after the other, up to the first one whose method would throw an"
                + " exception, and clears the buffer.";
        edges.of(carriesOut, c -> {
            TravelPurses x = Scenes.withDebt(0, 100);
            c.is("a load pays debt", Check.runText(x, "l0+40"), 1);
            c.is("debt", x.purse(0, 0, 3), 60);
            c.is("it is counted", x.count(12), 40);
            c.is("as a load", x.count(4), 140);
            c.is("an exchange pays debt", Check.runText(x, "x010:70"), 1);
            c.is("no debt", x.purse(0, 0, 3), 0);
            c.is("the rest", x.purse(0, 0, 0), 10);
            c.is("it is counted", x.count(12), 100);
            c.is("a hold", Check.runText(x, "h00:10"), 1);
            c.is("keeps", x.held(0, 3), 10);
            c.is("nothing is free", x.purse(0, 0, 2), 0);
        });
        edges.of(carriesOut, c -> {
            TravelPurses x = Scenes.withText("l0+200;x003:100;x030:100;h00:20;l3+99999");
            c.is("each on what the ones before it left", x.run(), 5);
            c.is("home money", x.purse(0, 0, 0), 150);
            c.is("the other", x.purse(0, 3, 0), 98);
            c.is("spreads", x.count(7) * 1000 + x.count(8), 2);
            c.is("held", x.held(0, 3), 24);
            c.is("another wallet", x.purse(3, 0, 0), 99999);
        });
        edges.of(carriesOut, c -> {
            TravelPurses x = Scenes.withText(LONGEST);
            x.run();
            c.is("it clears the buffer", x.clearBuffer(), 0);
            Check.runText(x, "x000:1");
            c.is("also if none is carried out", x.clearBuffer(), 0);
            Check.type(x, "l0+");
            c.fails("but not when it throws", Check.WRONG, x, () -> x.run());
            c.is("all of it is left", x.clearBuffer(), 3);
        });
        edges.of("Undoable, as one call, also if none is carried out.", c -> {
            TravelPurses x = Scenes.withText("l0+200;x003:100;h00:20");
            x.run();
            c.is("one state", x.count(13), 1);
            c.is("none is left", x.undo(), 0);
            c.is("all of it is undone", x.digest(), new TravelPurses().digest());
            Check.runText(x, "h00:1;l0+5");
            c.is("none is carried out", x.count(13), 1);
            c.is("undone", x.undo(), 0);
            c.is("as it was", x.digest(), new TravelPurses().digest());
        });
        edges.of("Undoable, as one call, also if none is carried out.", c -> {
            TravelPurses x = new TravelPurses();
            for (int i = 1; i <= 7; i++) {
                x.load(1, 1);
            }
            Check.runText(x, LONGEST);
            c.is("with six states", x.count(13), 6);
            x.undo();
            c.is("all 12 orders are undone", x.purse(0, 0, 0), 0);
            for (int left = 4; left >= 0; left--) {
                c.is("and then the calls before it", x.undo(), left);
            }
            c.is("those that are saved", x.purse(1, 0, 0), 2);
        });
        edges.of("Throws `IllegalArgumentException` if the buffer is not a complete row of orders",
                c -> {
            String[] wrong = {"", "l", "l0", "l0+", "x", "x0", "x00", "x001", "x001:", "h", "h0",
                "h00", "h00:", "l0+1;", "l0+1;l", "l0+0", "l0+100000", "l4+1", "l0+1;;l0+1",
                "l0+1z", "~", "l0+01", LONGEST.substring(0, 59) + ";", ";l0+1"};
            for (String text : wrong) {
                TravelPurses x = Scenes.withText(text);
                c.fails("run of " + text, Check.WRONG, x, () -> x.run());
                c.is("the buffer is as it was", x.clearBuffer(), text.length());
                c.is("nothing is loaded", x.count(4), 0);
                c.is("no state is saved", x.count(13), 0);
            }
        });
    }

    private static void stops(Check c, String text, int due) {
        TravelPurses x = Scenes.withHome(999000);
        for (int i = 0; i < 7; i++) {
            x.hold(0, 0, 1);
        }
        c.is("run of " + text, Check.runText(x, text), due);
    }

    private static void runStops(Edges edges) {
        String stops = "up to the first one whose method would throw an exception";
        edges.of(stops, c -> {
            stops(c, "l0+1000;l1+1", 2);
            stops(c, "l0+1001;l1+1", 0);
            stops(c, "l1+1;l0+1001;l1+1", 1);
            stops(c, "l0+999;l0+1;l0+1", 2);
        });
        edges.of(stops, c -> {
            stops(c, "x001:99999;l1+1", 2);
            stops(c, "x101:1;l1+1", 0);
            stops(c, "x001:1;x010:1;x010:1", 2);
            stops(c, "x000:1;l1+1", 0);
            stops(c, "x012:1;l1+1", 0);
            stops(c, "l1+5;x103:6", 1);
            stops(c, "l1+5;x103:5", 2);
        });
        edges.of(stops, c -> {
            stops(c, "h00:1", 1);
            stops(c, "h00:1;h00:1;l1+1", 1);
            stops(c, "h10:1;l1+1", 0);
            stops(c, "l1+7;h10:8", 1);
            stops(c, "l1+7;h10:7", 2);
        });
        edges.of("Returns how many are carried out.", c -> {
            TravelPurses x = Scenes.withText("h00:1;l0+7;l1+8");
            c.is("none", x.run(), 0);
            c.is("those behind it are not", x.purse(0, 0, 0) + x.purse(1, 0, 0), 0);
            c.is("one", Check.runText(x, "l0+7;h33:1;l1+8"), 1);
            c.is("it is carried out", x.purse(0, 0, 0), 7);
            c.is("the one behind is not", x.purse(1, 0, 0), 0);
            c.is("all but the last", Check.runText(x, "l0+7;l1+8;x200:1"), 2);
            c.is("the most", Check.runText(x, LONGEST), 12);
        });
    }

    private static void undo(Edges edges) {
        edges.under("Promise 18: undo");
        edges.of("Restores the latest saved state, and drops it.", c -> {
            TravelPurses x = new TravelPurses();
            x.load(0, 1);
            x.load(0, 2);
            x.undo();
            c.is("the latest one", x.purse(0, 0, 0), 1);
            x.undo();
            c.is("not the same one again", x.purse(0, 0, 0), 0);
            c.is("undo itself saves none", x.count(13), 0);
        });
        edges.of("Restores the latest saved state, and drops it.", c -> {
            TravelPurses x = new TravelPurses();
            x.load(0, 1);
            x.load(0, 2);
            x.undo();
            x.load(0, 4);
            x.undo();
            c.is("what came after an undo is undone alone", x.purse(0, 0, 0), 1);
            x.load(0, 8);
            c.is("what is restored is no part of what is saved", x.purse(0, 0, 0), 9);
            x.undo();
            x.undo();
            c.is("all is undone", x.digest(), new TravelPurses().digest());
        });
        edges.of("Returns how many saved states are left.", c -> {
            TravelPurses x = Scenes.save(new TravelPurses(), 6);
            for (int left = 5; left >= 0; left--) {
                c.is("left", x.undo(), left);
                c.is("counted", x.count(13), left);
            }
            Scenes.save(x, 100);
            c.is("six of many", x.undo(), 5);
        });
        edges.of("Throws `IllegalStateException` if there is none", c -> {
            TravelPurses x = new TravelPurses();
            c.fails("a new object", Check.REFUSED, x, () -> x.undo());
            Scenes.save(x, 1);
            x.undo();
            c.fails("after the only one", Check.REFUSED, x, () -> x.undo());
            Scenes.save(x, 7);
            for (int i = 0; i < 6; i++) {
                x.undo();
            }
            c.fails("after six of seven", Check.REFUSED, x, () -> x.undo());
        });
    }
}
