import java.nio.charset.StandardCharsets;
import java.util.Arrays;
import java.util.NoSuchElementException;

/** Each promise of the document by runs whose answers were worked out by hand. */
public final class PromiseTests {
    private static final int NONE = ProRataMarket.NONE;
    private static final long THROWN = Long.MIN_VALUE;
    private static final int BUY = 0;
    private static final int SELL = 1;
    private static final int LOW = Integer.MIN_VALUE;
    private static final int HIGH = Integer.MAX_VALUE;

    private static int wrong = 0;
    private static int looked = 0;
    private static String promise = "";

    private static void due(String call, long got, long want) {
        looked++;
        if (got != want) {
            wrong++;
            System.out.println(promise + ": " + call + " answered " + got + ", due is " + want);
        }
    }

    private static void dueThrow(String call, long got) {
        looked++;
        if (got != THROWN) {
            wrong++;
            System.out.println(promise + ": " + call + " answered " + got + ", due is a NoSuchElementException");
        }
    }

    private static long of(ProRataMarket x, int number, int what) {
        try {
            return x.of(number, what);
        } catch (NoSuchElementException e) {
            return THROWN;
        }
    }

    private static long position(ProRataMarket x, int trader) {
        try {
            return x.position(trader);
        } catch (NoSuchElementException e) {
            return THROWN;
        }
    }

    private static long money(ProRataMarket x, int trader) {
        try {
            return x.money(trader);
        } catch (NoSuchElementException e) {
            return THROWN;
        }
    }

    /** Feeds the text, filled up by blanks that the message leaves out. */
    private static int say(ProRataMarket x, String text) {
        byte[] bytes = text.getBytes(StandardCharsets.ISO_8859_1);
        byte[] full = Arrays.copyOf(bytes, (bytes.length + 19) / 20 * 20);
        for (int i = 0; i < full.length; i += 20) {
            int[] five = new int[5];
            for (int k = 0; k < 20; k++) {
                five[k / 4] = five[k / 4] << 8 | full[i + k] & 255;
            }
            x.feed(five[0], five[1], five[2], five[3], five[4]);
        }
        return x.message(bytes.length);
    }

    private static int fault(int place, int kind) {
        return -2 - (8 * place + kind);
    }

    private static void dueTrade(ProRataMarket x, int i, int rested, int came, int price, int lots, int kind) {
        due("trade(" + i + ", 0)", x.trade(i, 0), rested);
        due("trade(" + i + ", 1)", x.trade(i, 1), came);
        due("trade(" + i + ", 2)", x.trade(i, 2), price);
        due("trade(" + i + ", 3)", x.trade(i, 3), lots);
        due("trade(" + i + ", 4)", x.trade(i, 4), kind);
    }

    private static void newObject() {
        promise = "1 a new object";
        ProRataMarket x = new ProRataMarket();
        int[] counts = {0, 0, 0, 20, 2, 0, 0, 0, 0, 0, 0};
        for (int what = 0; what < counts.length; what++) {
            due("count(" + what + ")", x.count(what), counts[what]);
        }
        for (int side = 0; side < 2; side++) {
            for (int what = -2; what < 5; what++) {
                due("level(" + side + ", NONE, " + what + ")", x.level(side, NONE, what), what < 0 || what > 2 ? NONE : 0);
                due("level(" + side + ", 0, " + what + ")", x.level(side, 0, what), NONE);
            }
            due("top", x.top(side), NONE);
        }
        for (int trader = 0; trader < 10; trader++) {
            due("position", position(x, trader), 0);
            due("money", money(x, trader), 0);
        }
        due("NONE", ProRataMarket.NONE, -1);
        due("call", x.call() ? 1 : 0, 1);
        ProRataMarket y = new ProRataMarket();
        due("another object's count(1)", y.count(1), 0);
        y.order(1, BUY, 5, 5, 0);
        due("the first one's count(0)", x.count(0), 0);
    }

    private static void feed() {
        promise = "2 feed";
        ProRataMarket x = new ProRataMarket();
        for (int i = 1; i <= 25; i++) {
            due("feed", x.feed(0, 0, 0, 0, 0), 20 * i);
        }
        due("feed 26", x.feed(0, 0, 0, 0, 0), NONE);
        due("count(6)", x.count(6), 500);
        due("message(501)", x.message(501), NONE);
        due("message(0)", x.message(0), fault(0, 1));
        due("count(6)", x.count(6), 0);
        // Each byte counts at its place, those with the highest bit too.
        due("feed", x.feed(0x6f70656e, 0x20202020, 0x20202020, 0x20202020, 0x202020ff), 20);
        due("message", x.message(20), fault(19, 1));
        due("feed", x.feed(0x0a0a0a0a, 0x20636174, 0x20202020, 0x20202020, 0x20202020), 20);
        due("message", x.message(20), fault(5, 1));
        due("feed", x.feed(0xff6c6c3b, 0, 0, 0, 0), 20);
        due("message", x.message(4), fault(0, 1));
        // Twenty bytes, each of another place: "least 7;least 8;call" from five numbers.
        x.feed(0x6c656173, 0x7420373b, 0x6c656173, 0x7420383b, 0x63616c6c);
        due("message", x.message(20), 3);
        due("count(4)", x.count(4), 8);
        due("count(1)", x.count(1), 1);
        // Two feeds stand one behind the other: "grat" and "nt 99", "gran" and "t 99".
        x.feed(0x20202020, 0x20202020, 0x20202020, 0x20202020, 0x67726174);
        x.feed(0x6e742039, 0x39202020, 0x20202020, 0x20202020, 0x20202020);
        due("message", x.message(40), fault(16, 1));
        x.feed(0x20202020, 0x20202020, 0x20202020, 0x20202020, 0x6772616e);
        x.feed(0x74203939, 0x20202020, 0x20202020, 0x20202020, 0x20202020);
        due("message", x.message(40), 1);
        due("count(3)", x.count(3), 99);
    }

    private static void messageForms() {
        promise = "3 message: its forms";
        ProRataMarket x = new ProRataMarket();
        due("", say(x, "buy 1 10 50 rest;buy 2 10 49 come;buy 3 10 48 both;buy 4 10 47 less;buy 0 1000 46"), 5);
        due("count(0)", x.count(0), 5);
        due("of(5, 3)", of(x, 5, 3), 1000);
        due("of(5, 2)", of(x, 5, 2), 46);
        due("of(5, 0)", of(x, 5, 0), 0);
        due("blanks", say(x, "\n sell\n9 7  60\n;\n\noff 5 ; cut 4\n9;grant 0;least 50 "), 5);
        due("of(6, 0)", of(x, 6, 0), 9);
        due("of(6, 1)", of(x, 6, 1), SELL);
        due("of(4, 3)", of(x, 4, 3), 9);
        due("of(5, 3)", of(x, 5, 3), THROWN);
        due("count(3)", x.count(3), 0);
        due("count(4)", x.count(4), 50);
        due("no blanks", say(x, "grant1000;least1;off1;cut2 1;sell1 1 55less"), 5);
        due("zeros", say(x, "grant 0000007;least 00003"), 2);
        due("count(3)", x.count(3), 7);
        due("call, open", say(x, "call;call;open;open;call"), 3);
        due("count(1)", x.count(1), 1);
        due("the tape is empty", x.count(6), 0);

        // Refused LINES are left out, the others are done.
        ProRataMarket y = new ProRataMarket();
        due("refused", say(y, "off 1;cut 1 1;open;buy 1 5 10;cut 1 5;cut 1 6;cut 1 4;off 2;off 1;off 1;call;call;open;open"), 5);
        due("count(5)", y.count(5), 1);
        for (int i = 0; i < 60; i++) {
            due("order", y.order(1, BUY, 10 + i, 1, 0), i + 2);
        }
        due("no room in TRADING is no refusal", say(y, "buy 1 1 5"), 1);
        due("no room in a CALL is one", say(y, "call;buy 1 1 5;sell 1 1 5;open"), 2);
        due("count(5)", y.count(5), 62);

        // Without a word it is rest, whatever the LINE ahead of it said.
        ProRataMarket w = new ProRataMarket();
        due("less, then rest", say(w, "sell 1 5 10;buy 1 2 9 less;buy 1 9 10"), 3);
        due("count(10)", w.count(10), 0);
        due("count(9)", w.count(9), 1);
        // Modes by words: own ones meet.
        String[] modes = {"", " rest", " come", " both", " less"};
        int[] rests = {1, 1, 1, 0, 1};
        int[] sides = {SELL, SELL, BUY, NONE, SELL};
        for (int i = 0; i < modes.length; i++) {
            ProRataMarket z = new ProRataMarket();
            due("mode" + modes[i], say(z, "buy 1 5 10;sell 1 9 10" + modes[i]), 2);
            due("count(0)" + modes[i], z.count(0), rests[i]);
            due("of(2, 3)" + modes[i], of(z, 2, 3), sides[i] == SELL ? (i == 4 ? 4 : 9) : THROWN);
            due("of(1, 3)" + modes[i], of(z, 1, 3), sides[i] == BUY ? 5 : THROWN);
        }
    }

    private static void messageFaults() {
        promise = "3 message: faults";
        ProRataMarket x = new ProRataMarket();
        Object[][] faults = {
            {"", 0, 1}, {"   ", 3, 1}, {";", 0, 1}, {"call;", 5, 1}, {"call; ", 6, 1}, {"call;;open", 5, 1},
            {"calls", 0, 1}, {"callz", 0, 1}, {"zcall", 0, 1}, {"cal", 0, 1}, {"cAll", 0, 1}, {"Call", 0, 1}, {"7", 0, 1}, {"call open", 5, 1},
            {"call 1", 5, 1}, {"call1", 4, 1}, {"callX", 4, 1}, {"call\t", 4, 1}, {"call\r\n", 4, 1},
            {"rest", 0, 1}, {"buysell 1 1 1", 0, 1}, {"call;\u00e9", 5, 1}, {"call;call.", 9, 1},
            {"buy", 3, 1}, {"buy ", 4, 1}, {"buy 1", 5, 1}, {"buy 1 1", 7, 1}, {"buy 1 1 ", 8, 1},
            {"buy one", 4, 1}, {"buy 1;", 5, 1}, {"buy 1 1 1 1", 10, 1}, {"buy 1 1 1 off 1", 10, 1},
            {"buy 1 1 1 rest come", 15, 1}, {"buy 1 1 1 rest 1", 15, 1}, {"buy 1 1 1 rests", 10, 1},
            {"buy 1 1 1 res", 10, 1}, {"off 1 rest", 6, 1}, {"buy -1 1 1", 4, 1},
            {"buy 10 1 1", 4, 2}, {"sell 9999999 1 1", 5, 2}, {"buy 1 0 1", 6, 2}, {"buy 1 1001 1", 6, 2},
            {"buy 1 1 0", 8, 2}, {"buy 1 1 00000001", 8, 1}, {"buy 1 1 10000000", 8, 1},
            {"sell 1 215 9999999", 11, 2}, {"sell 1 1000 2147484", 12, 2}, {"off 0", 4, 2}, {"off", 3, 1},
            {"off 10000000", 4, 1}, {"off 12345678", 4, 1}, {"cut 0 1", 4, 2}, {"cut 1 0", 6, 2},
            {"cut 1 1001", 6, 2}, {"cut 1", 5, 1}, {"cut 1 1 1", 8, 1}, {"grant 1001", 6, 2}, {"grant", 5, 1},
            {"grant 1 1", 8, 1}, {"least 0", 6, 2}, {"least 51", 6, 2}, {"least x", 6, 1}, {"least 5 5", 8, 1},
            {"buy 10 1001 0 x", 4, 2}, {"buy 1 1001 x", 6, 2}, {"buy x 1001 1", 4, 1}, {"least 51;#", 6, 2},
            {"#;least 51", 0, 1}, {"buy 1 1 1;sell 2 1 1;off 0", 25, 2}, {"buy 1 1 1 less;call open", 20, 1},
        };
        for (Object[] f : faults) {
            due("\"" + f[0] + "\"", say(x, (String) f[0]), fault((Integer) f[1], (Integer) f[2]));
            due("the tape behind it", x.count(6), 0);
        }
        due("nothing is done", x.count(0) + x.count(1) + x.count(5), 0);
        due("count(4)", x.count(4), 2);

        ProRataMarket y = new ProRataMarket();
        due("sound ones", say(y, "sell 1 214 9999999;sell 0 1000 2147483;off 9999999;cut 9999999 1000"), 2);
        y.feed(0x6f666620, 0x31323334, 0x35363738, 0, 0);
        due("message(21)", y.message(21), NONE);
        due("message(-1)", y.message(-1), NONE);
        due("message(LOW)", y.message(LOW), NONE);
        due("message(HIGH)", y.message(HIGH), NONE);
        due("the tape stays", y.count(6), 20);
        due("only the first n bytes count", y.message(11), 0);
        due("count(6)", y.count(6), 0);
        y.feed(0x63616c6c, 0, 0, 0, 0);
        due("message(0)", y.message(0), fault(0, 1));
        due("the tape is empty", y.count(6), 0);

        // A MESSAGE as long as THE TAPE: 100 LINES, a fault at its last byte, at its end.
        String hundred = "call;open;".repeat(50);
        due("500 bytes", say(y, hundred.substring(0, 499)), 100);
        due("500 bytes", say(y, hundred), fault(500, 1));
        due("500 bytes", say(y, hundred.substring(0, 499) + "!"), fault(499, 1));
        due("count(1)", y.count(1), 0);
    }

    private static void orderArguments() {
        promise = "4 order: arguments";
        ProRataMarket x = new ProRataMarket();
        int[][] others = {
            {-1, 0, 1, 1, 0}, {10, 0, 1, 1, 0}, {LOW, 0, 1, 1, 0}, {HIGH, 0, 1, 1, 0}, {0, -1, 1, 1, 0},
            {0, 2, 1, 1, 0}, {0, HIGH, 1, 1, 0}, {0, 0, 0, 1, 0}, {0, 0, -1, 1, 0}, {0, 0, 10000000, 1, 0},
            {0, 0, LOW, 1, 0}, {0, 0, HIGH, 1, 0}, {0, 0, 1, 0, 0}, {0, 0, 1, -1, 0}, {0, 0, 1, 1001, 0},
            {0, 0, 1, HIGH, 0}, {0, 0, 1, 1, -1}, {0, 0, 1, 1, 4}, {0, 0, 1, 1, HIGH}, {0, 0, 1, 1, LOW},
        };
        for (int[] o : others) {
            due("order" + Arrays.toString(o), x.order(o[0], o[1], o[2], o[3], o[4]), NONE);
            due("would" + Arrays.toString(o), x.would(o[0], o[1], o[2], o[3], o[4], 0), NONE);
            due("worth" + Arrays.toString(o), x.worth(o[0], o[1], o[2], o[3], o[4]), NONE);
        }
        due("too dear", x.order(1, BUY, 9999999, 215, 0), -2);
        due("too dear", x.order(1, SELL, 2147484, 1000, 0), -2);
        due("too dear", x.order(1, SELL, 9999999, 1000, 3), -2);
        due("count(5)", x.count(5), 0);
        due("the dearest", x.order(1, SELL, 9999999, 214, 0), 1);
        due("the dearest", x.order(1, SELL, 2147483, 1000, 0), 2);
        due("the cheapest", x.order(9, BUY, 1, 1, 3), 3);
        due("order", x.order(0, BUY, 1, 1000, 2), 4);
        // In a CALL with 60 that rest there is no room, in TRADING what rests is taken off.
        for (int i = 0; i < 55; i++) {
            x.order(i % 10, BUY, 3, 1, 0);
        }
        due("the 60th", x.order(5, BUY, 2, 7, 0), 60);
        due("count(0)", x.count(0), 60);
        due("the 61st", x.order(5, BUY, 4, 7, 0), 61);
        due("count(0)", x.count(0), 60);
        due("of(61, 3)", of(x, 61, 3), THROWN);
        due("top(0)", x.top(BUY), 5);
        due("count(9)", x.count(9), 0);
        x.call();
        due("in a CALL", x.order(5, BUY, 2, 7, 0), -3);
        due("in a CALL, too dear", x.order(1, BUY, 9999999, 215, 0), -2);
        due("in a CALL, others", x.order(1, BUY, 9999999, 1001, 0), NONE);
        due("count(5)", x.count(5), 61);
        x.off(60);
        due("in a CALL", x.order(5, BUY, 2, 7, 0), 62);
        due("in a CALL", x.order(5, BUY, 2, 7, 0), -3);
        x.open();
        // What it trades makes room for what is left of it.
        due("order", x.order(7, SELL, 3, 60, 0), 63);
        due("of(63, 3)", of(x, 63, 3), 10);
    }

    private static void meeting() {
        promise = "4 order: meeting";
        ProRataMarket x = new ProRataMarket();
        x.grant(0);
        x.order(1, SELL, 102, 10, 0);
        x.order(2, SELL, 101, 10, 0);
        x.order(3, SELL, 103, 10, 0);
        x.order(4, SELL, 101, 10, 0);
        due("order", x.order(5, BUY, 102, 35, 0), 5);
        due("count(7)", x.count(7), 3);
        dueTrade(x, 2, 2, 5, 101, 10, 1);
        dueTrade(x, 1, 4, 5, 101, 10, 1);
        dueTrade(x, 0, 1, 5, 102, 10, 1);
        due("of(5, 3)", of(x, 5, 3), 5);
        due("of(5, 4)", of(x, 5, 4), 35);
        due("count(2)", x.count(2), 102);
        due("count(8)", x.count(8), 30);
        due("position", position(x, 5), 30);
        due("money", money(x, 5), -3040);
        due("money", money(x, 4), 1010);
        due("a sell at the resting price", x.order(6, SELL, 1, 2, 0), 6);
        dueTrade(x, 0, 5, 6, 102, 2, 1);
        due("worse ones do not meet", x.order(6, SELL, 103, 2, 0), 7);
        due("count(7)", x.count(7), 4);

        // (b) downwards, less than LEAST is nothing, (c) by TIME.
        ProRataMarket y = new ProRataMarket();
        y.grant(0);
        y.least(3);
        int[] sizes = {5, 40, 8, 47};
        for (int i = 0; i < 4; i++) {
            y.order(i, BUY, 50, sizes[i], 0);
        }
        y.order(9, SELL, 50, 37, 0);
        // 37 of 100: 1 (nothing), 14, 2 (nothing), 17; 6 are left over: 5 to the first, 1 to the second.
        due("count(7)", y.count(7), 4);
        dueTrade(y, 3, 2, 5, 50, 14, 1);
        dueTrade(y, 2, 4, 5, 50, 17, 1);
        dueTrade(y, 1, 1, 5, 50, 5, 2);
        dueTrade(y, 0, 2, 5, 50, 1, 2);
        due("count(0)", y.count(0), 3);
        // A share of just LEAST stands: 30 of 80 with 25, 8, 30 by 63 lots.
        y.least(2);
        due("of(2, 3)", of(y, 2, 3), 25);
        y.order(9, SELL, 50, 16, 0);
        // 16 of 63: 6, 2, 7; 1 is left over.
        dueTrade(y, 3, 2, 6, 50, 6, 1);
        dueTrade(y, 2, 3, 6, 50, 2, 1);
        dueTrade(y, 1, 4, 6, 50, 7, 1);
        dueTrade(y, 0, 2, 6, 50, 1, 2);
    }

    private static void topOrders() {
        promise = "4 order: TOP";
        ProRataMarket x = new ProRataMarket();
        x.order(1, BUY, 100, 50, 0);
        due("alone", x.top(BUY), 1);
        x.order(2, BUY, 100, 50, 0);
        due("as good", x.top(BUY), 1);
        x.order(2, BUY, 99, 50, 0);
        due("worse", x.top(BUY), 1);
        // The grant is ahead of all and is used up by (a) alone.
        x.order(5, SELL, 100, 15, 0);
        due("trades", x.count(7), 1);
        dueTrade(x, 0, 1, 4, 100, 15, 0);
        due("its grant", of(x, 1, 5), 5);
        x.order(5, SELL, 100, 21, 0);
        // 5 by grant; 16 of 80 (30 and 50): 6, 10.
        dueTrade(x, 2, 1, 5, 100, 5, 0);
        dueTrade(x, 1, 1, 5, 100, 6, 1);
        dueTrade(x, 0, 2, 5, 100, 10, 1);
        due("it lapses", x.top(BUY), NONE);
        due("its grant", of(x, 1, 5), 0);
        // A better one is TOP, the one ahead of it is none any more.
        x.order(3, BUY, 101, 5, 0);
        due("better", x.top(BUY), 6);
        x.grant(7);
        due("keeps its own", of(x, 6, 5), 20);
        x.order(3, BUY, 102, 30, 0);
        due("better", x.top(BUY), 7);
        due("grant by the rule", of(x, 7, 5), 7);
        due("none any more", of(x, 6, 5), 0);
        x.off(7);
        due("as it goes", x.top(BUY), NONE);
        due("no way back", of(x, 6, 5), 0);
        // Without a grant nobody is TOP, and the one that is stays.
        x.order(3, BUY, 103, 30, 0);
        x.grant(0);
        x.order(4, BUY, 104, 30, 0);
        due("the TOP stays", x.top(BUY), 8);
        due("of(9, 5)", of(x, 9, 5), 0);
        // What does not rest whole is no TOP.
        x.grant(20);
        x.order(1, SELL, 106, 5, 0);
        due("top(1)", x.top(SELL), 10);
        x.order(2, BUY, 106, 8, 0);
        due("not whole", x.top(BUY), 8);
        due("its rest", of(x, 11, 3), 3);
        due("all traded", x.top(SELL), NONE);
        // In a CALL it lapses, and none comes.
        x.call();
        due("in a CALL", x.top(BUY), NONE);
        x.order(4, BUY, 200, 5, 0);
        due("in a CALL", x.top(BUY), NONE);
        x.open();
        due("after it", x.top(BUY), NONE);
        x.order(4, BUY, 200, 5, 0);
        due("as good", x.top(BUY), NONE);
        x.order(4, BUY, 201, 5, 0);
        due("better", x.top(BUY), 14);
        x.cut(14, 4);
        due("cut", x.top(BUY), NONE);

        // (a) is the least of the TAKE, its SIZE, its GRANT; less than LEAST as well.
        ProRataMarket y = new ProRataMarket();
        y.least(50);
        y.order(1, SELL, 10, 3, 0);
        y.order(2, SELL, 10, 100, 0);
        y.order(3, BUY, 10, 1, 0);
        dueTrade(y, 0, 1, 3, 10, 1, 0);
        due("of(1, 5)", of(y, 1, 5), 19);
        y.order(3, BUY, 10, 10, 0);
        dueTrade(y, 1, 1, 4, 10, 2, 0);
        dueTrade(y, 0, 2, 4, 10, 8, 2);
        due("gone", y.top(SELL), NONE);

        // All of a price, TOP and all: its size beyond the grant is in (b).
        ProRataMarket z = new ProRataMarket();
        z.order(1, SELL, 10, 30, 0);
        z.order(3, BUY, 10, 40, 0);
        dueTrade(z, 1, 1, 2, 10, 20, 0);
        dueTrade(z, 0, 1, 2, 10, 10, 1);
        due("what is left rests", of(z, 2, 3), 10);
        due("no TOP", z.top(BUY), NONE);
        // An order that only had its own ones taken off rests whole.
        z.order(3, SELL, 10, 6, 0);
        due("TOP", z.top(SELL), 3);
        due("count(9)", z.count(9), 1);
    }

    private static ProRataMarket withOwn() {
        ProRataMarket x = new ProRataMarket();
        x.grant(0);
        x.order(1, SELL, 10, 4, 0);
        x.order(2, SELL, 10, 10, 0);
        x.order(1, SELL, 10, 6, 0);
        x.order(1, SELL, 11, 5, 0);
        x.order(3, SELL, 11, 5, 0);
        x.order(1, SELL, 12, 5, 0);
        return x;
    }

    private static void modes() {
        promise = "4 order: modes";
        ProRataMarket x = withOwn();
        x.order(1, BUY, 11, 30, 0);
        due("rest: traded", x.count(8), 15);
        due("rest: taken off", x.count(9), 3);
        due("rest: made less", x.count(10), 0);
        due("rest: left", of(x, 7, 3), 15);
        due("rest: what it does not meet stays", of(x, 6, 3), 5);

        x = withOwn();
        x.order(1, BUY, 10, 8, 0);
        due("rest: the price alone", of(x, 4, 3), 5);
        due("rest: taken off", x.count(9), 2);

        x = withOwn();
        x.order(1, BUY, 11, 30, 1);
        due("come: traded", x.count(8), 0);
        due("come: all rest", x.count(0), 6);
        due("come: taken off", x.count(9), 0);
        due("come: number", x.count(5), 7);
        x.order(2, BUY, 11, 12, 1);
        due("come: own ones at the best price", x.count(8), 0);
        x.off(2);
        x.order(2, BUY, 11, 12, 1);
        due("come: none there", x.count(8), 12);
        x.order(3, BUY, 11, 12, 1);
        due("come: at the next price", x.count(8), 12);

        x = withOwn();
        x.order(1, BUY, 11, 30, 2);
        due("both: traded", x.count(8), 0);
        due("both: taken off", x.count(9), 2);
        due("both: rest", x.count(0), 4);
        x.order(3, BUY, 11, 12, 2);
        due("both: one price traded", x.count(8), 10);
        due("both: the next ended it", of(x, 4, 3), 5);
        due("both: taken off", x.count(9), 3);
        due("both: rest", x.count(0), 2);

        x = withOwn();
        x.order(1, BUY, 11, 9, 3);
        due("less: traded", x.count(8), 0);
        due("less: made less", x.count(10), 9);
        due("less: taken off", x.count(9), 1);
        due("less: by TIME", of(x, 3, 3), 1);
        due("less: rest", x.count(0), 5);
        x.order(1, BUY, 12, 30, 3);
        // 1, then 10 traded, 5 made less, 5 traded, 5 made less: 4 are left.
        due("less: traded", x.count(8), 15);
        due("less: made less", x.count(10), 20);
        due("less: taken off", x.count(9), 4);
        due("less: left", of(x, 8, 3), 4);
        due("less: came with", of(x, 8, 4), 30);
        due("less: not whole", x.top(BUY), NONE);

        // Made less by a mode it stays TOP with its grant, to 0 it goes.
        ProRataMarket y = new ProRataMarket();
        y.order(1, SELL, 10, 30, 0);
        y.order(1, BUY, 10, 25, 3);
        due("TOP", y.top(SELL), 1);
        due("its grant", of(y, 1, 5), 20);
        due("its size", of(y, 1, 3), 5);
        due("its size at first", of(y, 1, 4), 30);
        y.order(1, BUY, 10, 5, 3);
        due("gone", y.top(SELL), NONE);
        due("count(0)", y.count(0), 0);
        due("count(9)", y.count(9), 1);
        due("count(10)", y.count(10), 30);
        // Taken off in a mode the TOP goes as well.
        y.order(1, SELL, 10, 30, 0);
        y.order(1, BUY, 10, 5, 2);
        due("gone", y.top(SELL), NONE);
        // In a CALL nobody meets oneself.
        y.call();
        y.order(1, SELL, 10, 30, 0);
        y.order(1, BUY, 10, 30, 2);
        due("count(0)", y.count(0), 2);
        due("at OPEN neither", y.open(), 30);
        due("position", position(y, 1), 0);
        due("money", money(y, 1), 0);
        due("count(9)", y.count(9), 2);
    }

    private static void offAndCut() {
        promise = "5 off";
        ProRataMarket x = new ProRataMarket();
        x.order(1, BUY, 10, 5, 0);
        x.order(2, BUY, 10, 6, 0);
        x.order(3, BUY, 10, 7, 0);
        for (int none : new int[] {0, -1, 4, LOW, HIGH}) {
            due("off(" + none + ")", x.off(none), NONE);
            due("cut(" + none + ")", x.cut(none, 1), NONE);
        }
        due("off(2)", x.off(2), 6);
        due("off(2)", x.off(2), NONE);
        due("queue", x.queue(BUY, 10, 1), 3);
        due("top", x.top(BUY), 1);
        due("off(1)", x.off(1), 5);
        due("top", x.top(BUY), NONE);
        due("count(0)", x.count(0), 1);
        due("count(9)", x.count(9), 0);
        x.call();
        due("in a CALL", x.off(3), 7);

        promise = "6 cut";
        ProRataMarket y = new ProRataMarket();
        y.order(1, SELL, 10, 9, 0);
        y.order(2, SELL, 10, 9, 0);
        for (int size : new int[] {0, -1, 9, 10, LOW, HIGH}) {
            due("cut(1, " + size + ")", y.cut(1, size), NONE);
        }
        due("top stays", y.top(SELL), 1);
        due("cut(2, 8)", y.cut(2, 8), 9);
        due("the TOP is another one", y.top(SELL), 1);
        due("cut(1, 8)", y.cut(1, 8), 9);
        due("cut(1, 1)", y.cut(1, 1), 8);
        due("cut(1, 1)", y.cut(1, 1), NONE);
        due("of(1, 3)", of(y, 1, 3), 1);
        due("of(1, 4)", of(y, 1, 4), 9);
        due("its TIME", y.queue(SELL, 10, 0), 1);
        due("top", y.top(SELL), NONE);
        y.call();
        due("in a CALL", y.cut(2, 3), 8);
    }

    private static void rules() {
        promise = "7 grant";
        ProRataMarket x = new ProRataMarket();
        due("grant(0)", x.grant(0), 20);
        due("grant(1000)", x.grant(1000), 0);
        due("grant(1001)", x.grant(1001), NONE);
        due("grant(-1)", x.grant(-1), NONE);
        due("grant(LOW)", x.grant(LOW), NONE);
        due("grant(HIGH)", x.grant(HIGH), NONE);
        due("count(3)", x.count(3), 1000);
        x.order(1, BUY, 5, 5, 0);
        due("grant(3)", x.grant(3), 1000);
        due("of(1, 5)", of(x, 1, 5), 1000);
        x.call();
        due("in a CALL", x.grant(4), 3);

        promise = "8 least";
        ProRataMarket y = new ProRataMarket();
        due("least(1)", y.least(1), 2);
        due("least(50)", y.least(50), 1);
        due("least(51)", y.least(51), NONE);
        due("least(0)", y.least(0), NONE);
        due("least(-1)", y.least(-1), NONE);
        due("least(LOW)", y.least(LOW), NONE);
        due("least(HIGH)", y.least(HIGH), NONE);
        due("count(4)", y.count(4), 50);
    }

    private static void callAndOpen() {
        promise = "9 call";
        ProRataMarket x = new ProRataMarket();
        x.order(1, BUY, 10, 5, 0);
        x.order(1, SELL, 12, 5, 0);
        due("call", x.call() ? 1 : 0, 1);
        due("call", x.call() ? 1 : 0, 0);
        due("count(1)", x.count(1), 1);
        due("top(0)", x.top(BUY), NONE);
        due("top(1)", x.top(SELL), NONE);
        x.order(3, BUY, 13, 5, 1);
        due("nothing meets", x.count(7), 0);
        due("both rest", x.count(0), 3);

        promise = "10 open";
        due("open", x.open(), 5);
        due("open", x.open(), NONE);
        due("count(1)", x.count(1), 0);
        // Of 12 and 13 the one nearest to LAST (0 at first).
        due("LAST", x.count(2), 12);
        dueTrade(x, 1, 3, 0, 12, 5, 3);
        dueTrade(x, 0, 2, 0, 12, 5, 3);
        due("money", money(x, 3), -60);
        due("money", money(x, 1), 60);
        due("count(8)", x.count(8), 5);
        x.call();
        due("nothing crosses", x.open(), 0);
        due("count(1)", x.count(1), 0);
        due("LAST", x.count(2), 12);
        due("count(0)", x.count(0), 1);

        // Prices at which no order rests: nearest to LAST above, within, below.
        int[] lasts = {3000, 700, 500, 400, 300, 1};
        int[] at = {600, 600, 500, 400, 400, 400};
        for (int i = 0; i < lasts.length; i++) {
            ProRataMarket y = new ProRataMarket();
            y.order(1, SELL, lasts[i], 1, 0);
            y.order(2, BUY, lasts[i], 1, 0);
            y.call();
            y.order(1, BUY, 600, 8, 0);
            y.order(2, SELL, 400, 8, 0);
            due("clears(0) with LAST " + lasts[i], y.clears(0), at[i]);
            due("open", y.open(), 8);
            due("LAST", y.count(2), at[i]);
        }

        // The greatest VOLUME first, then the least difference, of either sign, then the lesser price.
        ProRataMarket z = new ProRataMarket();
        z.call();
        z.order(1, BUY, 20, 10, 0);
        z.order(2, BUY, 10, 5, 0);
        z.order(3, SELL, 8, 10, 0);
        // p 8 to 10: B 15, A 10; 11 to 20: B 10, A 10.
        due("clears(0)", z.clears(0), 11);
        due("clears(1)", z.clears(1), 10);
        due("clears(2)", z.clears(2), 0);
        z.order(3, SELL, 11, 4, 0);
        // 8 to 10: 15, 10; 11 to 20: 10, 14.
        due("clears(0)", z.clears(0), 11);
        due("clears(2)", z.clears(2), -4);
        z.order(3, SELL, 11, 1, 0);
        // 8 to 10: 15, 10; 11 to 20: 10, 15: both as far from even, 8 is nearest to 0.
        due("clears(0)", z.clears(0), 8);
        due("clears(2)", z.clears(2), 5);
        z.order(4, SELL, 9, 1, 0);
        // 8: 15, 10; 9 and 10: 15, 11, the volume 11.
        due("clears(0)", z.clears(0), 9);
        due("clears(1)", z.clears(1), 11);
        due("open", z.open(), 11);
        // Buyers: 10 at 20 all, 1 of 5 at 10; sellers: 10 at 8, 1 at 9, all.
        due("count(7)", z.count(7), 4);
        dueTrade(z, 3, 1, 0, 9, 10, 3);
        dueTrade(z, 2, 2, 0, 9, 1, 2);
        dueTrade(z, 1, 3, 0, 9, 10, 3);
        dueTrade(z, 0, 6, 0, 9, 1, 3);
        due("rest", of(z, 2, 3), 4);
        due("rest", z.count(0), 3);

        // LAST itself, though no order rests there.
        ProRataMarket v = new ProRataMarket();
        v.order(1, SELL, 50, 1, 0);
        v.order(2, BUY, 50, 1, 0);
        v.call();
        v.order(1, BUY, 60, 5, 0);
        v.order(2, SELL, 40, 5, 0);
        v.order(1, SELL, 46, 5, 0);
        v.order(2, BUY, 54, 5, 0);
        v.order(3, SELL, 45, 3, 0);
        v.order(3, BUY, 55, 3, 0);
        due("clears(0)", v.clears(0), 50);
        v.order(4, SELL, 47, 9, 0);
        v.order(4, BUY, 53, 9, 0);
        due("clears(0)", v.clears(0), 50);
        due("clears(1)", v.clears(1), 22);

        // (b) and (c) in OPEN, LEAST as well, no TOP though one was.
        ProRataMarket w = new ProRataMarket();
        w.order(1, BUY, 30, 10, 0);
        w.order(2, BUY, 30, 40, 0);
        w.order(3, BUY, 30, 3, 0);
        due("a TOP", w.top(BUY), 1);
        w.call();
        w.order(4, SELL, 25, 20, 0);
        due("open", w.open(), 20);
        // 20 of 53: 3, 15, 1 (nothing); 2 are left over.
        due("count(7)", w.count(7), 4);
        dueTrade(w, 3, 1, 0, 25, 3, 1);
        dueTrade(w, 2, 2, 0, 25, 15, 1);
        dueTrade(w, 1, 1, 0, 25, 2, 2);
        dueTrade(w, 0, 4, 0, 25, 20, 3);
        due("position", position(w, 4), -20);
        due("money", money(w, 4), 500);
        due("money", money(w, 1), -125);
        // The price farthest out.
        ProRataMarket u = new ProRataMarket();
        u.call();
        u.order(1, BUY, 9999999, 3, 0);
        u.order(2, SELL, 9999999, 2, 0);
        due("open", u.open(), 2);
        due("LAST", u.count(2), 9999999);
        u.call();
        u.order(2, SELL, 1, 1, 0);
        due("clears(0)", u.clears(0), 9999999);
        due("open", u.open(), 1);
        due("money", money(u, 1), -29999997);
    }

    private static void theBook() {
        ProRataMarket x = new ProRataMarket();
        x.order(7, BUY, 10, 5, 0);
        x.order(8, BUY, 12, 6, 0);
        x.order(9, BUY, 10, 7, 0);
        x.order(1, SELL, 15, 8, 0);
        x.order(2, SELL, 13, 9, 0);
        x.order(3, BUY, 11, 1, 0);
        x.order(4, BUY, 12, 2, 0);

        promise = "11 of";
        long[] want = {8, BUY, 12, 6, 6, 20};
        for (int what = 0; what < want.length; what++) {
            due("of(2, " + what + ")", of(x, 2, what), want[what]);
        }
        due("of(5, 1)", of(x, 5, 1), SELL);
        due("of(4, 5)", of(x, 4, 5), 0);
        dueThrow("of(2, 6)", of(x, 2, 6));
        dueThrow("of(2, -1)", of(x, 2, -1));
        dueThrow("of(2, HIGH)", of(x, 2, HIGH));
        for (int none : new int[] {0, -1, 8, LOW, HIGH}) {
            dueThrow("of(" + none + ", 0)", of(x, none, 0));
        }

        promise = "12 level";
        for (int what = 0; what < 3; what++) {
            due("how many, what " + what, x.level(BUY, NONE, what), 3);
            due("how many, what " + what, x.level(SELL, NONE, what), 2);
        }
        for (int what : new int[] {LOW, -2, -1, 3, 4, HIGH}) {
            for (int side = 0; side < 2; side++) {
                for (int k = -1; k < 4; k++) {
                    due("level(" + side + ", " + k + ", " + what + ")", x.level(side, k, what), NONE);
                }
            }
        }
        int[][] buys = {{12, 8, 2}, {11, 1, 1}, {10, 12, 2}};
        int[][] sells = {{13, 9, 1}, {15, 8, 1}};
        for (int what = 0; what < 3; what++) {
            for (int k = 0; k < 3; k++) {
                due("level(0, " + k + ", " + what + ")", x.level(BUY, k, what), buys[k][what]);
            }
            for (int k = 0; k < 2; k++) {
                due("level(1, " + k + ", " + what + ")", x.level(SELL, k, what), sells[k][what]);
            }
        }
        due("none such", x.level(BUY, 3, 0), NONE);
        due("none such", x.level(SELL, 2, 0), NONE);
        due("none such", x.level(SELL, HIGH, 0), NONE);
        due("others", x.level(BUY, -2, 0), NONE);
        due("others", x.level(BUY, LOW, 0), NONE);
        for (int side : new int[] {LOW, -1, 2, 3, HIGH}) {
            for (int what = -1; what < 4; what++) {
                due("level(" + side + ", 0, " + what + ")", x.level(side, 0, what), NONE);
                due("level(" + side + ", NONE, " + what + ")", x.level(side, NONE, what), NONE);
            }
        }

        promise = "13 queue";
        due("queue", x.queue(BUY, 10, 0), 1);
        due("queue", x.queue(BUY, 10, 1), 3);
        due("queue", x.queue(BUY, 10, 2), NONE);
        due("queue", x.queue(BUY, 12, 1), 7);
        due("queue", x.queue(SELL, 12, 0), NONE);
        due("queue", x.queue(SELL, 13, 0), 5);
        due("queue", x.queue(BUY, 9, 0), NONE);
        due("queue", x.queue(BUY, 10, -1), NONE);
        due("queue", x.queue(BUY, 10, HIGH), NONE);
        due("queue", x.queue(2, 10, 0), NONE);
        due("queue", x.queue(-1, 10, 0), NONE);
        due("queue", x.queue(BUY, LOW, 0), NONE);

        promise = "14 top";
        due("top(0)", x.top(BUY), 2);
        due("top(1)", x.top(SELL), 5);
        due("top(2)", x.top(2), NONE);
        due("top(-1)", x.top(-1), NONE);
        due("top(HIGH)", x.top(HIGH), NONE);

        promise = "15 ahead";
        due("ahead(3, 0)", x.ahead(3, 0), 5);
        due("ahead(3, 1)", x.ahead(3, 1), 9);
        due("ahead(1, 0)", x.ahead(1, 0), 0);
        due("ahead(7, 0)", x.ahead(7, 0), 6);
        due("ahead(7, 1)", x.ahead(7, 1), 0);
        due("ahead(4, 1)", x.ahead(4, 1), 9);
        due("ahead(6, 1)", x.ahead(6, 1), 8);
        due("ahead(3, 2)", x.ahead(3, 2), NONE);
        due("ahead(3, -1)", x.ahead(3, -1), NONE);
        due("ahead(8, 0)", x.ahead(8, 0), NONE);
        due("ahead(0, 0)", x.ahead(0, 0), NONE);
        due("ahead(LOW, 0)", x.ahead(LOW, 0), NONE);
    }

    private static ProRataMarket ofFour() {
        ProRataMarket x = new ProRataMarket();
        x.grant(6);
        x.least(3);
        x.order(1, BUY, 10, 16, 0);
        x.order(2, BUY, 10, 30, 0);
        x.order(3, BUY, 10, 4, 0);
        x.order(4, BUY, 10, 50, 0);
        return x;
    }

    private static void whatWouldBe() {
        promise = "16 share";
        ProRataMarket x = ofFour();
        // Of 36: 6 by grant; 30 of 94: 3, 9, 1 (nothing), 15; 3 are left over, all to the first.
        int[][] parts = {{12, 6, 3, 3}, {9, 0, 9, 0}, {0, 0, 0, 0}, {15, 0, 15, 0}};
        for (int number = 1; number <= 4; number++) {
            for (int what = 0; what < 4; what++) {
                due("share(" + number + ", 36, " + what + ")", x.share(number, 36, what), parts[number - 1][what]);
            }
        }
        due("share of 1", x.share(1, 1, 0), 1);
        due("share of 1", x.share(2, 1, 0), 0);
        due("share of all", x.share(3, 100, 0), 4);
        due("share of all", x.share(1, 100, 1), 6);
        due("share of all", x.share(1, 100, 2), 10);
        due("share of 101", x.share(1, 101, 0), NONE);
        due("share of 0", x.share(1, 0, 0), NONE);
        due("share of LOW", x.share(1, LOW, 0), NONE);
        due("share what 4", x.share(1, 5, 4), NONE);
        due("share what -1", x.share(1, 5, -1), NONE);
        due("share of none such", x.share(5, 5, 0), NONE);
        due("nothing is another one", of(x, 1, 5), 6);
        due("nothing is another one", of(x, 1, 3), 16);

        promise = "17 takeFor";
        due("takeFor(4, 0) ahead of all else", ofFour().takeFor(4, 0), 12);
        due("takeFor(1, 0)", x.takeFor(1, 0), 1);
        // By the other promise: none less would do.
        for (int number = 1; number <= 4; number++) {
            for (int what = 0; what < 2; what++) {
                int least = 1;
                long size = of(x, number, 3);
                while (x.share(number, least, 0) < (what == 0 ? 1 : size)) {
                    least++;
                }
                due("takeFor(" + number + ", " + what + ")", x.takeFor(number, what), least);
            }
        }
        due("takeFor(4, 0)", x.takeFor(4, 0), 12);
        due("takeFor(4, 1)", x.takeFor(4, 1), 100);
        due("takeFor(4, 2)", x.takeFor(4, 2), NONE);
        due("takeFor(4, -1)", x.takeFor(4, -1), NONE);
        due("takeFor(5, 0)", x.takeFor(5, 0), NONE);
        due("takeFor(0, 0)", x.takeFor(0, 0), NONE);

        promise = "18 splits";
        ProRataMarket y = ofFour();
        // Of 36, none TOP: 36 of 100: 5, 10, 1 (nothing), 18; 3 left over to the first: 8 it has. In two of 8:
        // 2 (nothing) each, 8 left over: 8.
        due("splits(1, 2, 36)", y.splits(1, 2, 36), 0);
        // The second, by the TOP's 6: 30 of 94; 9; in four of 8, 8, 7, 7: 2 each, nothing: 12 left over: 7 to
        // the first, 5 to the parts.
        due("splits(2, 4, 36)", y.splits(2, 4, 36), 5 - 9);
        due("splits(2, 2, 36)", y.splits(2, 2, 36), 8 - 9);
        due("splits(2, 2, 1)", y.splits(2, 2, 1), 0);
        due("splits(1, 2, 1)", y.splits(1, 2, 1), 0);
        due("splits(3, 2, 36)", y.splits(3, 2, 36), 0);
        due("splits(3, 4, 36)", y.splits(3, 4, 36), 0);
        due("splits(3, 5, 36)", y.splits(3, 5, 36), -2000000);
        due("splits(1, 1, 36)", y.splits(1, 1, 36), -2000000);
        due("splits(1, 9, 100)", y.splits(1, 9, 100), 0);
        due("splits(1, 10, 36)", y.splits(1, 10, 36), -2000000);
        due("splits(1, LOW, 36)", y.splits(1, LOW, 36), -2000000);
        due("splits(1, 2, 0)", y.splits(1, 2, 0), -2000000);
        due("splits(1, 2, 101)", y.splits(1, 2, 101), -2000000);
        due("splits(5, 2, 10)", y.splits(5, 2, 10), -2000000);
        due("splits(-1, 2, 10)", y.splits(-1, 2, 10), -2000000);
        due("nothing is another one", y.count(0), 4);
        due("nothing is another one", of(y, 1, 5), 6);
    }

    /** A side as full as can be, at one price and at sixty. */
    private static void fullBooks() {
        promise = "12, 16 to 19 with 60 orders at a price";
        ProRataMarket x = new ProRataMarket();
        x.grant(0);
        for (int i = 0; i < 60; i++) {
            x.order(1, BUY, 10, i < 59 ? 1000 : 9, 0);
        }
        due("level", x.level(BUY, 0, 1), 59009);
        due("level", x.level(BUY, 0, 2), 60);
        due("queue", x.queue(BUY, 10, 59), 60);
        due("ahead", x.ahead(60, 0), 59000);
        due("share of all", x.share(60, 59009, 0), 9);
        // The last of 9 by 20000 of 59009: 3; in nine of 1: nothing, as no more than the first is left over.
        due("share", x.share(60, 20000, 2), 3);
        due("splits", x.splits(60, 9, 20000), -3);
        due("splits of all", x.splits(60, 9, 59009), 0);
        due("splits of all", x.splits(1, 9, 59009), 0);
        due("takeFor all", x.takeFor(60, 1), 59009);
        due("takeFor", x.takeFor(60, 0), 13114);
        due("takeFor", x.takeFor(1, 0), 1);
        due("would", x.would(2, SELL, 10, 1000, 0, 0), 1000);

        promise = "4, 12, 19 with 60 prices";
        ProRataMarket y = new ProRataMarket();
        for (int i = 0; i < 60; i++) {
            y.order(1, SELL, 160 - i, 1, 0);
        }
        due("level", y.level(SELL, NONE, 0), 60);
        due("level", y.level(SELL, 59, 0), 160);
        due("level", y.level(SELL, 60, 0), NONE);
        due("would", y.would(2, BUY, 160, 62, 0, 0), 60);
        due("would", y.would(2, BUY, 160, 62, 0, 1), 2);
        due("would", y.would(2, BUY, 160, 62, 0, 2), 160);
        due("worth", y.worth(2, BUY, 160, 62, 0), 60 * 261 / 2);
        due("order", y.order(2, BUY, 160, 62, 0), 61);
        due("of(61, 3)", of(y, 61, 3), 2);
        due("count(0)", y.count(0), 1);

        promise = "10 open with 59 prices";
        ProRataMarket z = new ProRataMarket();
        z.call();
        for (int i = 0; i < 59; i++) {
            z.order(1, SELL, 100 + i, 1, 0);
        }
        z.order(2, BUY, 200, 59, 0);
        due("open", z.open(), 59);
        due("LAST", z.count(2), 158);
        due("count(0)", z.count(0), 0);
        due("count(7)", z.count(7), 60);
        dueTrade(z, 59, 60, 0, 158, 59, 3);
        dueTrade(z, 0, 59, 0, 158, 1, 3);
    }

    private static void wouldAndWorth() {
        promise = "19 would";
        ProRataMarket x = withOwn();
        int[][] want = {{15, 15, 11, 15}, {0, 0, 0, 0}, {0, 0, 0, 10}, {15, 0, 11, 15}};
        for (int mode = 0; mode < 4; mode++) {
            for (int what = 0; what < 4; what++) {
                due("would(1, .., 30, " + mode + ", " + what + ")", x.would(1, BUY, 11, 30, mode, what),
                        want[mode][what]);
            }
        }
        due("would in part", x.would(1, BUY, 11, 9, 3, 3), 9);
        due("would what 4", x.would(1, BUY, 11, 9, 3, 4), NONE);
        due("would what -1", x.would(1, BUY, 11, 9, 3, -1), NONE);
        due("would of others", x.would(10, BUY, 11, 9, 3, 0), NONE);
        due("would too dear", x.would(1, BUY, 9999999, 215, 0, 1), NONE);
        due("would rest", x.would(1, BUY, 9, 5, 0, 1), 5);
        due("would trade", x.would(1, BUY, 9, 5, 0, 0), 0);
        due("would at", x.would(1, BUY, 9, 5, 0, 2), 0);
        due("nothing is another one", x.count(0) + x.count(5) + x.count(7) + x.count(9) + x.count(10), 12);

        promise = "20 worth";
        due("worth", x.worth(1, BUY, 11, 30, 0), 155);
        due("worth", x.worth(4, BUY, 11, 30, 0), 310);
        due("worth", x.worth(1, BUY, 11, 30, 1), 0);
        due("worth", x.worth(1, BUY, 11, 30, 3), 155);
        due("worth", x.worth(1, BUY, 9, 30, 0), 0);
        due("worth too dear", x.worth(1, BUY, 9999999, 215, 0), NONE);
        due("worth to sell", x.worth(1, SELL, 9, 30, 0), 0);
        due("position", position(x, 4), 0);
        ProRataMarket y = new ProRataMarket();
        for (int i = 0; i < 50; i++) {
            y.order(1, BUY, 9999999, 20, 0);
        }
        due("worth beyond an int", y.worth(2, SELL, 1, 1000, 0), 9999999000L);
        due("worth to sell", y.worth(2, SELL, 1, 1, 0), 9999999);
        for (int i = 0; i < 10; i++) {
            y.order(1, BUY, 5, 2, 0);
        }
        promise = "19 would";
        due("no room", y.would(2, SELL, 9999999, 1, 0, 1), 0);
        due("no room", y.would(2, BUY, 1, 5, 0, 1), 0);
        due("room left then", y.would(2, SELL, 9999999, 214, 0, 1), 0);
        y.call();
        due("no room in a CALL", y.would(2, BUY, 1, 5, 0, 1), 0);
        due("meets in a CALL", y.would(2, SELL, 6, 1000, 0, 0), 1000);
        due("own ones make room", y.would(1, SELL, 5, 7, 0, 1), 7);
        due("own ones", y.would(1, SELL, 5, 7, 0, 3), 1020);
        due("still a CALL", y.count(1), 1);
        promise = "20 worth";
        due("worth in a CALL", y.worth(2, SELL, 5, 1000, 0), 9999999000L);
        y.open();
        // What earlier calls did does not count in.
        y.order(2, SELL, 9999999, 40, 0);
        due("worth of others", y.worth(2, SELL, 9999999, 10, 0), 99999990);

        promise = "21 clears";
        ProRataMarket z = new ProRataMarket();
        for (int what = 0; what < 3; what++) {
            due("while TRADING", z.clears(what), 0);
        }
        due("clears(3)", z.clears(3), NONE);
        due("clears(-1)", z.clears(-1), NONE);
        z.call();
        z.order(1, BUY, 30, 7, 0);
        for (int what = 0; what < 3; what++) {
            due("without sellers", z.clears(what), 0);
        }
        z.order(2, SELL, 31, 9, 0);
        for (int what = 0; what < 3; what++) {
            due("no volume", z.clears(what), 0);
        }
        z.order(2, SELL, 28, 9, 0);
        due("clears(0)", z.clears(0), 28);
        due("clears(1)", z.clears(1), 7);
        due("clears(2)", z.clears(2), -2);
        due("clears(3)", z.clears(3), NONE);
        due("nothing is another one", z.count(0) + z.count(1) + z.count(2) + z.count(7), 4);
        z.open();
        due("while TRADING", z.clears(1), 0);
        for (int what : new int[] {LOW, -1, 3, HIGH}) {
            due("others while TRADING", z.clears(what), NONE);
            due("others on a new object", new ProRataMarket().clears(what), NONE);
        }
    }

    private static void trades() {
        promise = "22 trade";
        ProRataMarket x = new ProRataMarket();
        x.grant(0);
        for (int i = 0; i < 61; i++) {
            x.order(1, BUY, 1 + i, 3, 0);
            x.order(2, SELL, 1 + i, 3, 0);
            due("count(7)", x.count(7), Math.min(60, i + 1));
        }
        dueTrade(x, 0, 121, 122, 61, 3, 1);
        dueTrade(x, 59, 3, 4, 2, 3, 1);
        dueTrade(x, 30, 61, 62, 31, 3, 1);
        due("trade(60, 0)", x.trade(60, 0), NONE);
        due("trade(-1, 0)", x.trade(-1, 0), NONE);
        due("trade(LOW, 0)", x.trade(LOW, 0), NONE);
        due("trade(HIGH, 0)", x.trade(HIGH, 0), NONE);
        due("trade(0, 5)", x.trade(0, 5), NONE);
        due("trade(0, -1)", x.trade(0, -1), NONE);
        ProRataMarket y = new ProRataMarket();
        due("none yet", y.trade(0, 0), NONE);

        promise = "23 position";
        due("position(1)", position(x, 1), 183);
        due("position(2)", position(x, 2), -183);
        due("position(0)", position(x, 0), 0);
        due("position(9)", position(x, 9), 0);
        for (int none : new int[] {-1, 10, LOW, HIGH}) {
            dueThrow("position(" + none + ")", position(x, none));
            dueThrow("money(" + none + ")", money(x, none));
        }

        promise = "24 money";
        due("money(1)", money(x, 1), -3 * 61 * 62 / 2);
        due("money(2)", money(x, 2), 3 * 61 * 62 / 2);
        due("money(0)", money(x, 0), 0);
        for (int i = 0; i < 3; i++) {
            y.order(0, SELL, 9999999, 214, 0);
            y.order(9, BUY, 9999999, 214, 0);
        }
        due("money beyond an int", money(y, 0), 6419999358L);
        due("money beyond an int", money(y, 9), -6419999358L);

        promise = "25 count";
        due("count(-1)", x.count(-1), NONE);
        due("count(11)", x.count(11), NONE);
        due("count(LOW)", x.count(LOW), NONE);
        due("count(HIGH)", x.count(HIGH), NONE);
        due("count(0)", x.count(0), 0);
        due("count(2)", x.count(2), 61);
        due("count(5)", x.count(5), 122);
        due("count(8)", x.count(8), 183);
        x.feed(1, 2, 3, 4, 5);
        due("count(6)", x.count(6), 20);
        ProRataMarket z = withOwn();
        z.order(1, BUY, 10, 7, 3);
        due("count(9)", z.count(9), 1);
        due("count(10)", z.count(10), 7);
        z.order(1, BUY, 10, 1, 0);
        due("those taken off are not made less", z.count(10), 7);
        due("count(9)", z.count(9), 2);
        due("LAST", z.count(2), 10);
    }

    public static void main(String[] args) {
        newObject();
        feed();
        messageForms();
        messageFaults();
        orderArguments();
        meeting();
        topOrders();
        modes();
        offAndCut();
        rules();
        callAndOpen();
        theBook();
        whatWouldBe();
        fullBooks();
        wouldAndWorth();
        trades();
        System.out.println(looked + " answers looked at, " + wrong + " not as due");
        if (wrong != 0) {
            System.exit(1);
        }
    }
}
