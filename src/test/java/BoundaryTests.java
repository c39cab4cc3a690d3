import java.io.IOException;
import java.lang.reflect.Constructor;
import java.lang.reflect.Field;
import java.lang.reflect.Method;
import java.lang.reflect.Modifier;
import java.nio.charset.StandardCharsets;
import java.nio.file.Files;
import java.nio.file.Path;
import java.util.Arrays;
import java.util.NoSuchElementException;
import java.util.TreeSet;

/**
 * Each sentence of the document that names a boundary case, by a test of its own: too small, too large, empty,
 * full, a wrap-around, a refused call. says() names the promise and the sentence, word by word as the document
 * has it, for the answers that follow. Terms are told by the promise to which they matter.
 */
public final class BoundaryTests {
    private static final int NONE = ProRataMarket.NONE;
    private static final int NO_SPLIT = -2000000;
    private static final long THROWN = Long.MIN_VALUE;
    private static final int BUY = 0;
    private static final int SELL = 1;
    private static final int LOW = Integer.MIN_VALUE;
    private static final int HIGH = Integer.MAX_VALUE;
    private static final int REST = 0;
    private static final int COME = 1;
    private static final int BOTH = 2;
    private static final int LESS = 3;

    private static int wrong = 0;
    private static int looked = 0;
    private static int sentences = 0;
    private static String promise = "";
    private static String sentence = "";
    private static String document = null;

    private static void says(String where, String words) {
        promise = where;
        sentence = words;
        sentences++;
        if (document != null && !document.contains(words)) {
            fail("the document does not say so");
        }
    }

    private static void fail(String what) {
        wrong++;
        System.out.println(promise + ": \"" + sentence + "\": " + what);
    }

    private static void due(String call, long got, long want) {
        looked++;
        if (got != want) {
            fail(call + " answered " + (got == THROWN ? "by a throw" : got) + ", due is "
                    + (want == THROWN ? "a throw" : want));
        }
    }

    private static void due(String call, boolean got, boolean want) {
        due(call, got ? 1 : 0, want ? 1 : 0);
    }

    private static long of(ProRataMarket x, int number, int what) {
        try {
            return x.of(number, what);
        } catch (NoSuchElementException e) {
            return THROWN;
        }
    }

    private static long position(ProRataMarket x, int trader) {
        try {
            return x.position(trader);
        } catch (NoSuchElementException e) {
            return THROWN;
        }
    }

    private static long money(ProRataMarket x, int trader) {
        try {
            return x.money(trader);
        } catch (NoSuchElementException e) {
            return THROWN;
        }
    }

    /** Feeds the text, filled up by blanks that the message leaves out. */
    private static int say(ProRataMarket x, String text) {
        byte[] bytes = text.getBytes(StandardCharsets.ISO_8859_1);
        feedBytes(x, Arrays.copyOf(bytes, (bytes.length + 19) / 20 * 20));
        return x.message(bytes.length);
    }

    private static void feedBytes(ProRataMarket x, byte[] bytes) {
        for (int i = 0; i + 20 <= bytes.length; i += 20) {
            int[] five = new int[5];
            for (int k = 0; k < 20; k++) {
                five[k / 4] = five[k / 4] << 8 | bytes[i + k] & 255;
            }
            x.feed(five[0], five[1], five[2], five[3], five[4]);
        }
    }

    private static int fault(int place, int kind) {
        return -2 - (8 * place + kind);
    }

    private static void dueSaid(String text, int want) {
        due("\"" + text.replace("\n", "\\n") + "\" on a new object", say(new ProRataMarket(), text), want);
    }

    private static void dueTrade(ProRataMarket x, int i, int... want) {
        for (int what = 0; what < want.length; what++) {
            due("trade(" + i + ", " + what + ")", x.trade(i, what), want[what]);
        }
    }

    /** So many buys of 1 at 5, by trader 1. */
    private static ProRataMarket withBuys(int orders) {
        ProRataMarket x = new ProRataMarket();
        for (int i = 0; i < orders; i++) {
            x.order(1, BUY, 5, 1, REST);
        }
        return x;
    }

    /** Orders to sell at 10 of the sizes, of the traders from 1 on; no TOP. */
    private static ProRataMarket withSells(int... sizes) {
        return withSellsBy(0, sizes);
    }

    /** Likewise, the first one TOP by the grant, which is the rule's later on, too. */
    private static ProRataMarket withSellsBy(int grant, int... sizes) {
        ProRataMarket x = new ProRataMarket();
        x.grant(grant);
        for (int i = 0; i < sizes.length; i++) {
            x.order(1 + i, SELL, 10, sizes[i], REST);
        }
        return x;
    }

    /** LAST is that price and nothing rests. */
    private static ProRataMarket withLast(int price) {
        ProRataMarket x = new ProRataMarket();
        x.order(8, BUY, price, 1, REST);
        x.order(9, SELL, price, 1, REST);
        return x;
    }

    // ---- what it is, the public face

    private static void life() {
        says("What it is", "An object is used for at most 512 calls after it has been made");
        ProRataMarket x = new ProRataMarket();
        for (int i = 0; i < 255; i++) {
            x.order(1, BUY, 10, 1, REST);
            x.order(2, SELL, 10, 1, REST);
        }
        due("the 511th call, count(8)", x.count(8), 255);
        due("the 512th call, money(1)", x.money(1), -2550);
        // As many orders as calls can bring: 19 times 25 feeds and a message of 50 LINES.
        ProRataMarket y = new ProRataMarket();
        for (int i = 0; i < 19; i++) {
            due("message", say(y, "buy 1 1 1;".repeat(50).substring(0, 499)), 50);
        }
        due("count(5)", y.count(5), 950);
        due("count(0)", y.count(0), 60);
        due("queue(0, 1, 59)", y.queue(BUY, 1, 59), 60);
    }

    private static void face() {
        says("The public face", "public final class ProRataMarket {");
        due("public and final", Modifier.toString(ProRataMarket.class.getModifiers()).equals("public final"), true);
        String five = "(int,int,int,int,int)";
        String none = " throws java.util.NoSuchElementException";
        String[] want = {"int feed" + five, "int message(int)", "int order" + five, "int off(int)", "int cut(int,int)",
            "int grant(int)", "int least(int)", "boolean call()", "int open()", "int of(int,int)" + none,
            "int level(int,int,int)", "int queue(int,int,int)", "int top(int)", "int ahead(int,int)",
            "int share(int,int,int)", "int takeFor(int,int)", "int splits(int,int,int)",
            "int would(int,int,int,int,int,int)", "long worth" + five, "int clears(int)", "int trade(int,int)",
            "int position(int)" + none, "long money(int)" + none, "int count(int)"};
        TreeSet<String> due = new TreeSet<>(Arrays.asList(want));
        TreeSet<String> got = new TreeSet<>();
        for (Method m : ProRataMarket.class.getDeclaredMethods()) {
            if (!Modifier.isPrivate(m.getModifiers())) {
                got.add(m.toString().replace("public ", "").replace("ProRataMarket.", ""));
            }
        }
        if (!got.equals(due)) {
            fail("the methods are " + got);
        }
        Constructor<?>[] makers = ProRataMarket.class.getDeclaredConstructors();
        due("constructors", makers.length, 1);
        due("without arguments", makers[0].getParameterCount(), 0);
        for (Field f : ProRataMarket.class.getDeclaredFields()) {
            due(f.getName() + " is private", Modifier.isPrivate(f.getModifiers()), !f.getName().equals("NONE"));
        }
        says("The public face", "`NONE = -1`: None.");
        due("NONE", ProRataMarket.NONE, -1);
    }

    // ---- 1 a new object

    private static void newObject() {
        says("Promise 1", "An empty BOOK, TRADING.");
        ProRataMarket x = new ProRataMarket();
        due("count(0)", x.count(0), 0);
        due("count(1)", x.count(1), 0);
        for (int side = 0; side < 2; side++) {
            due("level(side, NONE, 0)", x.level(side, NONE, 0), 0);
            due("level(side, 0, 0)", x.level(side, 0, 0), NONE);
            due("queue", x.queue(side, 1, 0), NONE);
            due("top", x.top(side), NONE);
        }
        due("of(1, 0)", of(x, 1, 0), THROWN);
        due("open", x.open(), NONE);
        due("the first order meets nobody", x.order(1, BUY, 9, 9, COME), 1);
        due("it rests", of(x, 1, 3), 9);

        says("Promise 1", "RULES: GRANT (0 to 1000; 20 at first), LEAST (1 to 50; 2): the least share.");
        ProRataMarket y = new ProRataMarket();
        due("count(3)", y.count(3), 20);
        due("count(4)", y.count(4), 2);

        says("Promise 1", "PHASE: 0 TRADING (at first), 1 a CALL.");
        due("count(1)", y.count(1), 0);
        due("call", y.call(), true);
        due("count(1)", y.count(1), 1);
        due("another new object", new ProRataMarket().count(1), 0);

        says("Promise 1", "LAST: the PRICE of the latest TRADE (0 at first; of each MEETING the last one).");
        due("count(2)", new ProRataMarket().count(2), 0);
    }

    // ---- 2 feed

    private static void feed() {
        says("Promise 2", "THE TAPE has 500 bytes");
        ProRataMarket x = new ProRataMarket();
        for (int i = 1; i <= 25; i++) {
            due("feed " + i, x.feed(0x63616c6c, 0x3b6f7065, 0x6e3b6361, 0x6c6c3b6f, 0x70656e3b), 20 * i);
        }
        due("count(6)", x.count(6), 500);

        says("Promise 2", "NONE, and none come, if it would have more than 500.");
        due("feed 26", x.feed(-1, -1, -1, -1, -1), NONE);
        due("feed 27", x.feed(0, 0, 0, 0, 0), NONE);
        due("count(6)", x.count(6), 500);
        due("message(501)", x.message(501), NONE);
        due("what was there stays", x.message(499), 100);
        due("empty, it has room again", x.feed(0x63616c6c, 0x20202020, 0x20202020, 0x20202020, 0x20202020), 20);
        due("message(20)", x.message(20), 1);

        says("Promise 2", "Twenty bytes come behind THE TAPE, of each number the highest first: how many it has");
        // Each of the twenty places in its turn holds the only byte that begins no TOKEN, 128 and above too.
        for (int place = 0; place < 20; place++) {
            for (int odd : new int[] {0, 1, 127, 128, 255}) {
                ProRataMarket y = new ProRataMarket();
                int[] five = {0x20202020, 0x20202020, 0x20202020, 0x20202020, 0x20202020};
                int shift = 24 - 8 * (place % 4);
                five[place / 4] = five[place / 4] & ~(255 << shift) | odd << shift;
                due("feed", y.feed(five[0], five[1], five[2], five[3], five[4]), 20);
                due("byte " + odd + " at " + place, y.message(20), fault(place, 1));
            }
        }
        ProRataMarket z = new ProRataMarket();
        due("numbers below 0", z.feed(LOW, -1, -1, -1, LOW), 20);
        due("the highest numbers", z.feed(HIGH, HIGH, HIGH, HIGH, HIGH), 40);
        due("message(40)", z.message(40), fault(0, 1));
        // "grant 12" over the border of two feeds: "gra" "nt 12".
        feedBytes(z, "                 gra".getBytes(StandardCharsets.ISO_8859_1));
        feedBytes(z, "nt 12               ".getBytes(StandardCharsets.ISO_8859_1));
        due("over the border", z.message(40), 1);
        due("count(3)", z.count(3), 12);
    }

    // ---- 3 message

    private static void messageLength() {
        says("Promise 3", "NONE: it has not so many, n is below 0 (THE TAPE stays).");
        ProRataMarket x = new ProRataMarket();
        for (int n : new int[] {1, -1, LOW, HIGH, 20, 500, 501}) {
            due("message(" + n + ") of an empty tape", x.message(n), NONE);
        }
        x.feed(0x63616c6c, 0x20202020, 0x20202020, 0x20202020, 0x20202020);
        for (int n : new int[] {21, 22, 40, 500, 501, HIGH, -1, -20, LOW}) {
            due("message(" + n + ") of 20", x.message(n), NONE);
            due("count(6)", x.count(6), 20);
        }
        due("nothing is done", x.count(1), 0);
        due("message(20) of 20", x.message(20), 1);
        due("it is done", x.count(1), 1);

        says("Promise 3", "The first n bytes of THE TAPE (it is empty then) are a MESSAGE: how many of its LINES were done.");
        due("count(6)", x.count(6), 0);
        due("message(1)", x.message(1), NONE);
        feedBytes(x, "open;call;;;;;;;;;;;".getBytes(StandardCharsets.ISO_8859_1));
        due("the bytes behind n mean nothing", x.message(4), 1);
        due("they are gone as well", x.count(6), 0);
        due("message(5)", x.message(5), NONE);
        feedBytes(x, "offset call         ".getBytes(StandardCharsets.ISO_8859_1));
        due("n parts a word", x.message(3), fault(3, 1));
        due("the tape is empty behind a FAULT", x.count(6), 0);
        feedBytes(x, "grant 12345678901234".getBytes(StandardCharsets.ISO_8859_1));
        due("n parts a NUMBER", x.message(7), 1);
        due("count(3)", x.count(3), 1);
        feedBytes(x, "call                ".getBytes(StandardCharsets.ISO_8859_1));
        due("message(0)", x.message(0), fault(0, 1));
        due("message(0) empties it as well", x.count(6), 0);
        due("count(1)", x.count(1), 0);
        due("message(0) of an empty tape", x.message(0), fault(0, 1));
        due("all LINES are refused", say(x, "off 1"), 0);
    }

    private static void messageTokens() {
        says("Promise 3", "blanks, 32, 10, part TOKENS and mean nothing else");
        for (int code = 0; code < 256; code++) {
            boolean blank = code == 32 || code == 10;
            boolean letter = code >= 'a' && code <= 'z';
            dueSaid((char) code + "call", blank ? 1 : fault(0, 1));
            // A letter makes another word, a ';' asks for another LINE.
            dueSaid("call" + (char) code, blank ? 1 : letter ? fault(0, 1) : code == ';' ? fault(5, 1) : fault(4, 1));
        }
        dueSaid("\n \n call \n\n ; \n open\n", 2);
        dueSaid("ca ll", fault(0, 1));
        dueSaid("grant 1 2", fault(8, 1));
        dueSaid("buy1 2 3rest", 1);
        dueSaid("buy1\n2\n3rest;sell2 2 3less;grant5", 3);
        dueSaid("buy 1 2 3 re st", fault(10, 1));

        says("Promise 3", "words of small letters, NUMBERS of 1 to 7 digits, each that stand together");
        dueSaid("grant 1", 1);
        dueSaid("grant 0000001", 1);
        dueSaid("grant 00000001", fault(6, 1));
        dueSaid("off 9999999", 0);
        dueSaid("off 10000000", fault(4, 1));
        dueSaid("off 99999999999999999999", fault(4, 1));
        dueSaid("off 4294967297", fault(4, 1));
        dueSaid("sell 1 1 9999999", 1);
        dueSaid("sell 1 1 10000000", fault(9, 1));
        dueSaid("callopen", fault(0, 1));
        dueSaid("Call", fault(0, 1));
        dueSaid("caLl", fault(0, 1));
        dueSaid("grant -1", fault(6, 1));
        dueSaid("grant +1", fault(6, 1));
        dueSaid("grant 1.", fault(7, 1));

        // A word is one that a LINE has by all of its letters: the one ahead of, the one behind each.
        String[] heads = {"", "", "", "", "", "", "", "", "buy 1 1 1 ", "buy 1 1 1 ", "buy 1 1 1 ", "buy 1 1 1 "};
        String[] words = {"buy", "sell", "off", "cut", "grant", "least", "call", "open", "rest", "come", "both", "less"};
        String[] ends = {" 1 1 1", " 1 1 1", " 1", " 1 1", " 1", " 1", "", "", "", "", "", ""};
        int[] done = {1, 1, 0, 0, 1, 1, 1, 0, 1, 1, 1, 1};
        for (int i = 0; i < words.length; i++) {
            dueSaid(heads[i] + words[i] + ends[i], done[i]);
            for (int k = 0; k < words[i].length(); k++) {
                for (int step = -1; step <= 1; step += 2) {
                    StringBuilder word = new StringBuilder(words[i]);
                    word.setCharAt(k, (char) (word.charAt(k) + step));
                    dueSaid(heads[i] + word + ends[i], fault(heads[i].length(), 1));
                }
            }
        }

        says("Promise 3", "LINE { ; LINE }");
        dueSaid("", fault(0, 1));
        dueSaid(" ", fault(1, 1));
        dueSaid(";", fault(0, 1));
        dueSaid("call;", fault(5, 1));
        dueSaid(";call", fault(0, 1));
        dueSaid("call;;open", fault(5, 1));
        dueSaid("call open", fault(5, 1));
        dueSaid("call;open", 2);
        dueSaid("call;open;".repeat(50).substring(0, 499), 100);
        dueSaid("call;open;".repeat(50), fault(500, 1));
        dueSaid("call;" + " ".repeat(491) + "open", 2);
        dueSaid("call;" + " ".repeat(491) + "opem", fault(496, 1));
    }

    private static void messageLines() {
        says("Promise 3", "(TRADER, SIZE, PRICE, MODE; rest without)");
        String[] bad = {"10 1 1", "9999999 1 1", "0 0 1", "0 1001 1", "0 9999999 1", "0 1 0", "9 1 0"};
        int[] places = {4, 4, 6, 6, 6, 8, 8};
        for (int i = 0; i < bad.length; i++) {
            dueSaid("buy " + bad[i], fault(places[i], 2));
            dueSaid("sell " + bad[i] + " less", fault(places[i] + 1, 2));
        }
        dueSaid("buy 0 1 1;buy 9 1000 1;buy 0 1 9999999;sell 0 1000 2147483", 4);
        for (String noMode : new String[] {"rests", "res", "buy", "call", "off", "cut", "1", "lessmore"}) {
            dueSaid("buy 0 1 1 " + noMode, fault(10, 1));
        }
        dueSaid("buy 0 1 1 rest rest", fault(15, 1));
        dueSaid("rest", fault(0, 1));
        // Rest without a word: its own order is taken off, and what is left of it rests.
        ProRataMarket x = new ProRataMarket();
        due("message", say(x, "sell 1 5 10 less;sell 2 5 10 both;buy 1 4 10"), 3);
        due("count(9)", x.count(9), 1);
        due("count(10)", x.count(10), 0);
        due("count(8)", x.count(8), 4);
        due("what the LINE said", say(x, "off 2;sell 7 1000 12;buy 8 999 11"), 3);
        long[] sell = {7, SELL, 12, 1000};
        long[] buy = {8, BUY, 11, 999};
        for (int what = 0; what < 4; what++) {
            due("of(4, " + what + ")", of(x, 4, what), sell[what]);
            due("of(5, " + what + ")", of(x, 5, what), buy[what]);
        }

        says("Promise 3", "off NUMBER (an ORDER, 1 to 9999999)");
        dueSaid("off 0", fault(4, 2));
        dueSaid("off 0000000", fault(4, 2));
        dueSaid("off 1", 0);
        dueSaid("off 9999999", 0);
        dueSaid("buy 1 1 1;off 1", 2);
        dueSaid("off", fault(3, 1));
        dueSaid("off 1 1", fault(6, 1));
        dueSaid("off 1 rest", fault(6, 1));

        says("Promise 3", "cut NUMBER NUMBER (likewise, its SIZE then, 1 to 1000)");
        dueSaid("cut 0 1", fault(4, 2));
        dueSaid("cut 9999999 1", 0);
        dueSaid("cut 1 0", fault(6, 2));
        dueSaid("cut 1 1", 0);
        dueSaid("cut 1 1000", 0);
        dueSaid("cut 1 1001", fault(6, 2));
        dueSaid("cut 1", fault(5, 1));
        dueSaid("buy 1 1000 1;cut 1 999;cut 1 1", 3);

        says("Promise 3", "grant NUMBER | least NUMBER | call | open");
        dueSaid("grant 0;grant 1000", 2);
        dueSaid("grant 1001", fault(6, 2));
        dueSaid("grant", fault(5, 1));
        dueSaid("least 0", fault(6, 2));
        dueSaid("least 1;least 50", 2);
        dueSaid("least 51", fault(6, 2));
        dueSaid("least", fault(5, 1));
        dueSaid("call 1", fault(5, 1));
        dueSaid("call;open 1", fault(10, 1));

        says("Promise 3", "They are done one behind the other.");
        ProRataMarket y = new ProRataMarket();
        due("message", say(y, "grant 5;buy 1 9 10;grant 7;buy 1 9 11;cut 2 8;off 1;call;grant 9"), 8);
        due("count(3)", y.count(3), 9);
        due("count(0)", y.count(0), 1);
        due("of(2, 3)", of(y, 2, 3), 8);
    }

    private static void messageFaults() {
        says("Promise 3", "FAULTS, the first from the left, of one place the least");
        dueSaid("buy 10 0 0 ?", fault(4, 2));
        dueSaid("buy 1 0 0 ?", fault(6, 2));
        dueSaid("buy 1 1 0 ?", fault(8, 2));
        dueSaid("buy 1 1 1 ?", fault(10, 1));
        dueSaid("? buy 10 0 0", fault(0, 1));
        dueSaid("least 51;?", fault(6, 2));
        dueSaid("least x;grant 1001", fault(6, 1));
        dueSaid("off 0 1", fault(4, 2));
        // What would be out of bounds, where no NUMBER goes on or the digits are no NUMBER: 1 is the lesser.
        dueSaid("call 9999999", fault(5, 1));
        dueSaid("buy 1 1 1 9999999", fault(10, 1));
        dueSaid("grant 00001001", fault(6, 1));
        dueSaid("off 00000000", fault(4, 1));

        says("Promise 3", "TOKEN with which no MESSAGE goes on (the end: its place)");
        dueSaid("buy", fault(3, 1));
        dueSaid("buy  ", fault(5, 1));
        dueSaid("buy 1", fault(5, 1));
        dueSaid("buy 1 1", fault(7, 1));
        dueSaid("buy 1 1;", fault(7, 1));
        dueSaid("buy x", fault(4, 1));
        dueSaid("buy ;", fault(4, 1));
        dueSaid("cut 1 less", fault(6, 1));
        dueSaid("call; ", fault(6, 1));
        dueSaid("call;\n\n", fault(7, 1));
        dueSaid("1", fault(0, 1));
        dueSaid("calls", fault(0, 1));
        dueSaid("cal", fault(0, 1));

        says("Promise 3", "2 a NUMBER out of its bounds (at a PRICE also: PRICE times SIZE).");
        dueSaid("buy 1 331 6487866", 1);
        dueSaid("buy 1 512 4194303", 1);
        dueSaid("buy 1 512 4194304", fault(10, 2));
        dueSaid("buy 1 1000 2147483", 1);
        dueSaid("buy 1 1000 2147484", fault(11, 2));
        dueSaid("sell 1 214 9999999", 1);
        dueSaid("sell 1 215 9999999", fault(11, 2));
        // 2 to the 32nd and a bit: an int would have come round to 204, to 1410064408.
        dueSaid("sell 1 500 8589935", fault(11, 2));
        dueSaid("sell 1 1000 9999999", fault(12, 2));

        says("Promise 3", "With one nothing of it is done.");
        ProRataMarket x = new ProRataMarket();
        x.order(1, SELL, 9, 9, REST);
        due("message", say(x, "buy 1 1 1;grant 5;least 5;cut 1 8;off 1;call;buy 1 1 0"), fault(53, 2));
        int[] counts = {1, 0, 0, 20, 2, 1, 0, 0, 0, 0, 0};
        for (int what = 0; what < counts.length; what++) {
            due("count(" + what + ")", x.count(what), counts[what]);
        }
        due("of(1, 3)", of(x, 1, 3), 9);
        due("top(1)", x.top(SELL), 1);

        says("Promise 3", "-2 less (8 * place + kind): a FAULT.");
        dueSaid("?", -3);
        dueSaid("off 0", -36);
        dueSaid("call;open;".repeat(50), -4003);
    }

    private static void messageRefusals() {
        says("Promise 3", "A LINE that is refused as it is done (no such ORDER, no room, ..) is left out, the others are done.");
        dueSaid("off 1;grant 5", 1);
        dueSaid("cut 1 1;grant 5", 1);
        dueSaid("open;grant 5", 1);
        dueSaid("call;call;grant 5", 2);
        dueSaid("call;open;open;grant 5", 3);
        dueSaid("buy 1 5 1;cut 1 5;grant 5", 2);
        dueSaid("buy 1 5 1;cut 1 6;grant 5", 2);
        dueSaid("buy 1 5 1;cut 1 4;grant 5", 3);
        dueSaid("buy 1 5 1;off 1;off 1;cut 1 1;grant 5", 3);
        dueSaid("buy 1 5 1;off 2;off 1", 2);
        ProRataMarket x = withBuys(59);
        due("the 60th in a CALL", say(x, "call;buy 1 1 5;buy 1 1 5;sell 2 1 9;off 1;sell 2 1 9;grant 3"), 5);
        due("count(5)", x.count(5), 61);
        due("count(0)", x.count(0), 60);
        due("count(3)", x.count(3), 3);
        due("in TRADING that is no refusal", say(x, "open;buy 1 1 4"), 2);
        due("count(5)", x.count(5), 62);
        due("of(62, 0)", of(x, 62, 0), THROWN);
    }

    // ---- 4 order

    private static void orderArguments() {
        says("Promise 4", "TRADERS 0 to 9.");
        ProRataMarket x = new ProRataMarket();
        due("order of 0", x.order(0, BUY, 5, 5, REST), 1);
        due("order of 9", x.order(9, BUY, 5, 5, REST), 2);
        for (int trader : new int[] {-1, 10, 11, LOW, HIGH}) {
            due("order of " + trader, x.order(trader, BUY, 5, 5, REST), NONE);
        }

        says("Promise 4", "a SIDE (0 buy, 1 sell)");
        for (int side : new int[] {-1, 2, LOW, HIGH}) {
            due("side " + side, x.order(1, side, 5, 5, REST), NONE);
        }
        due("of(1, 1)", of(x, 1, 1), BUY);
        due("side 1", x.order(1, SELL, 6, 5, REST), 3);
        due("of(3, 1)", of(x, 3, 1), SELL);

        says("Promise 4", "a PRICE 1 to 9999999");
        for (int price : new int[] {0, -1, 10000000, LOW, HIGH}) {
            due("price " + price, x.order(1, BUY, price, 1, REST), NONE);
        }
        due("price 1", x.order(1, BUY, 1, 1, REST), 4);
        due("price 9999999", x.order(1, SELL, 9999999, 1, REST), 5);

        says("Promise 4", "a SIZE 1 to 1000");
        for (int size : new int[] {0, -1, 1001, LOW, HIGH}) {
            due("size " + size, x.order(1, BUY, 1, size, REST), NONE);
        }
        due("size 1", x.order(1, BUY, 1, 1, REST), 6);
        due("size 1000", x.order(1, BUY, 1, 1000, REST), 7);

        says("Promise 4", "MODES of an ORDER that comes in");
        for (int mode : new int[] {-1, 4, LOW, HIGH}) {
            due("mode " + mode, x.order(1, BUY, 1, 1, mode), NONE);
        }
        due("mode 0", x.order(1, BUY, 1, 1, 0), 8);
        due("mode 3", x.order(1, BUY, 1, 1, 3), 9);
        due("nothing else came", x.count(5), 9);
        due("nothing else rests", x.count(0), 9);

        says("Promise 4", "PRICE times SIZE is an int (no more than 2147483647)");
        ProRataMarket y = new ProRataMarket();
        due("2147483646", y.order(1, BUY, 6487866, 331, REST), 1);
        due("2147483000", y.order(1, BUY, 2147483, 1000, REST), 2);
        says("Promise 4", "-2: PRICE times SIZE is no int");
        due("2147483648", y.order(1, BUY, 4194304, 512, REST), -2);
        due("2147484000", y.order(1, BUY, 2147484, 1000, REST), -2);
        due("round to 204", y.order(1, SELL, 8589935, 500, REST), -2);
        due("round to 1410064408", y.order(1, SELL, 9999999, 1000, REST), -2);
        due("another one out of bounds", y.order(1, SELL, 9999999, 1001, REST), NONE);
        due("another one out of bounds", y.order(1, SELL, 9999999, 1000, 4), NONE);
        due("none came", y.count(5), 2);

        says("Promise 4", "a NUMBER (they rise from 1 on, as orders come)");
        ProRataMarket z = new ProRataMarket();
        due("the first", z.order(1, BUY, 10, 5, REST), 1);
        z.order(10, BUY, 10, 5, REST);
        z.would(1, BUY, 10, 5, REST, 0);
        z.worth(1, BUY, 10, 5, REST);
        due("one that rests nowhere", z.order(2, SELL, 10, 5, REST), 2);
        due("none rests", z.count(0), 0);
        due("behind it", z.order(2, SELL, 10, 5, REST), 3);
        due("one of which nothing is left", z.order(2, BUY, 10, 5, COME), 4);
        z.off(3);
        due("a number comes but once", z.order(2, BUY, 10, 5, COME), 5);
    }

    private static void room() {
        says("Promise 4", "ORDERS that rest, 60 at most");
        ProRataMarket x = withBuys(59);
        due("the 60th", x.order(2, BUY, 4, 1, REST), 60);
        due("count(0)", x.count(0), 60);
        due("the 61st", x.order(2, BUY, 4, 1, REST), 61);
        due("count(0)", x.count(0), 60);

        says("Promise 4", "What is left then rests (if there is room: fewer than 60 rest; else it is taken off).");
        due("of(60, 3)", of(x, 60, 3), 1);
        due("of(61, 3)", of(x, 61, 3), THROWN);
        due("a sell, nor", x.order(2, SELL, 9, 1, REST), 62);
        due("level(1, NONE, 0)", x.level(SELL, NONE, 0), 0);
        due("a better one is no TOP", x.order(2, BUY, 6, 1, REST), 63);
        due("top(0)", x.top(BUY), 1);
        due("it is none that MODES took off", x.count(9), 0);
        due("one that makes room itself", x.order(2, SELL, 5, 60, REST), 64);
        due("of(64, 3)", of(x, 64, 3), 1);
        // The last of 60 that goes is enough.
        ProRataMarket y = withBuys(59);
        y.order(3, SELL, 9, 2, REST);
        due("count(0)", y.count(0), 60);
        due("all of one taken", y.order(4, BUY, 9, 5, REST), 61);
        due("of(61, 3)", of(y, 61, 3), 3);
        due("count(0)", y.count(0), 60);
        // One of its own that was taken off makes room, too.
        ProRataMarket z = withBuys(59);
        z.order(3, SELL, 9, 2, REST);
        z.order(3, BUY, 9, 5, REST);
        due("of(61, 3)", of(z, 61, 3), 5);
        due("count(9)", z.count(9), 1);

        says("Promise 4", "-3: a CALL, and 60 rest.");
        ProRataMarket c = withBuys(59);
        c.call();
        due("59 rest", c.order(2, SELL, 1, 1, REST), 60);
        due("60 rest", c.order(2, SELL, 1, 1, REST), -3);
        due("60 rest", c.order(2, BUY, 9, 1, LESS), -3);
        due("too dear", c.order(2, BUY, 9999999, 1000, LESS), -2);
        due("others", c.order(2, BUY, 9999999, 1001, LESS), NONE);
        due("none came", c.count(5), 60);
        c.off(1);
        due("59 rest", c.order(2, BUY, 9, 1, REST), 61);
        due("60 rest", c.order(2, BUY, 9, 1, REST), -3);
        c.open();
        due("TRADING again, 58 rest", c.count(0), 58);
        due("order", c.order(2, BUY, 4, 1, REST), 62);
    }

    private static void meets() {
        says("Promise 4", "as long as something of it is left and the best PRICE of the other SIDE is its own or BETTER for it");
        int[] prices = {99, 100, 101};
        for (int price : prices) {
            ProRataMarket x = new ProRataMarket();
            x.order(1, SELL, 100, 5, REST);
            x.order(2, BUY, price, 5, REST);
            due("a buy at " + price + ", a sell at 100", x.count(8), price >= 100 ? 5 : 0);
            due("count(0)", x.count(0), price >= 100 ? 0 : 2);
            ProRataMarket y = new ProRataMarket();
            y.order(1, BUY, 100, 5, REST);
            y.order(2, SELL, price, 5, REST);
            due("a sell at " + price + ", a buy at 100", y.count(8), price <= 100 ? 5 : 0);
            due("count(0)", y.count(0), price <= 100 ? 0 : 2);
        }
        ProRataMarket z = new ProRataMarket();
        z.order(1, SELL, 9999999, 5, REST);
        z.order(2, BUY, 9999999, 5, REST);
        due("at 9999999", z.count(8), 5);
        z.order(1, BUY, 1, 5, REST);
        z.order(2, SELL, 1, 5, REST);
        due("at 1", z.count(8), 10);
        // Its own at a worse PRICE than its last one it does not meet.
        ProRataMarket own = new ProRataMarket();
        own.order(1, SELL, 10, 5, REST);
        own.order(2, SELL, 11, 5, REST);
        own.order(2, BUY, 11, 5, BOTH);
        due("nothing of it was left", own.count(9), 0);
        due("count(8)", own.count(8), 5);

        says("Promise 4", "BETTER of a SIDE is a higher PRICE to buy, a lower one to sell.");
        ProRataMarket b = new ProRataMarket();
        b.order(1, BUY, 1, 1, REST);
        b.order(1, BUY, 3, 1, REST);
        b.order(1, BUY, 2, 1, REST);
        b.order(2, SELL, 1, 3, REST);
        dueTrade(b, 2, 2, 4, 3, 1);
        dueTrade(b, 1, 3, 4, 2, 1);
        dueTrade(b, 0, 1, 4, 1, 1);
        b.order(1, SELL, 2, 1, REST);
        b.order(1, SELL, 1, 1, REST);
        b.order(1, SELL, 3, 1, REST);
        b.order(2, BUY, 3, 3, REST);
        dueTrade(b, 2, 6, 8, 1, 1);
        dueTrade(b, 1, 5, 8, 2, 1);
        dueTrade(b, 0, 7, 8, 3, 1);

        says("Promise 4", "Then, if something of it is left and ORDERS are there: it TAKES the lesser of what is left and their SIZES together.");
        for (int size : new int[] {7, 8, 9}) {
            ProRataMarket x = withSells(3, 5);
            x.order(9, BUY, 10, size, REST);
            due("size " + size + ", count(8)", x.count(8), Math.min(size, 8));
            due("what rests", x.level(BUY, 0, 1), size > 8 ? 1 : NONE);
            due("what is left there", x.level(SELL, 0, 1), size < 8 ? 1 : NONE);
        }
        ProRataMarket sixty = new ProRataMarket();
        for (int i = 0; i < 60; i++) {
            sixty.order(1, SELL, 100 + i, 1, REST);
        }
        sixty.order(2, BUY, 159, 61, REST);
        due("60 PRICES", sixty.count(8), 60);
        due("what rests of 61", of(sixty, 61, 3), 1);
        ProRataMarket alone = withSells(3);
        alone.order(2, SELL, 11, 4, REST);
        alone.order(1, BUY, 11, 9, REST);
        due("no others at the first PRICE", alone.count(8), 4);
        due("LAST", alone.count(2), 11);
        due("what rests", of(alone, 3, 3), 5);
    }

    private static void modes() {
        says("Promise 4", "0: these are taken off");
        ProRataMarket x = withSells(4, 6);
        due("order", x.order(1, BUY, 10, 6, REST), 3);
        due("its own are off", of(x, 1, 3), THROWN);
        due("count(9)", x.count(9), 1);
        due("it took all of the others", x.count(8), 6);
        due("count(0)", x.count(0), 0);

        says("Promise 4", "1: nothing is left of it");
        x = withSells(4, 6);
        due("order", x.order(1, BUY, 10, 6, COME), 3);
        due("nothing traded", x.count(8), 0);
        due("count(0)", x.count(0), 2);
        due("count(9)", x.count(9), 0);
        due("count(10)", x.count(10), 0);
        x = withSells(4);
        x.order(2, SELL, 11, 5, REST);
        x.order(2, BUY, 11, 6, COME);
        due("what it took ahead stands", x.count(8), 4);
        due("count(0)", x.count(0), 1);

        says("Promise 4", "2: these are taken off and nothing is left of it");
        x = withSells(4, 6);
        due("order", x.order(1, BUY, 10, 6, BOTH), 3);
        due("nothing traded", x.count(8), 0);
        due("count(0)", x.count(0), 1);
        due("of(2, 3)", of(x, 2, 3), 6);
        due("count(9)", x.count(9), 1);

        says("Promise 4", "3: by TIME each of these and it are made less by the lesser of both SIZES (an ORDER of SIZE 0 is taken off).");
        for (int size : new int[] {3, 4, 5}) {
            x = withSells(4);
            due("order", x.order(1, BUY, 10, size, LESS), 2);
            due("size " + size + ": its own", of(x, 1, 3), size < 4 ? 1 : THROWN);
            due("size " + size + ": itself", of(x, 2, 3), size > 4 ? 1 : THROWN);
            due("count(9)", x.count(9), size < 4 ? 0 : 1);
            due("count(10)", x.count(10), Math.min(size, 4));
            due("count(7)", x.count(7), 0);
        }
        x = new ProRataMarket();
        for (int size : new int[] {2, 3, 4}) {
            x.order(1, SELL, 10, size, REST);
        }
        x.order(1, BUY, 10, 5, LESS);
        due("by TIME: the third is whole", of(x, 3, 3), 4);
        due("count(0)", x.count(0), 1);
        due("count(9)", x.count(9), 2);
        x = new ProRataMarket();
        x.order(1, SELL, 10, 2, REST);
        x.order(2, SELL, 10, 9, REST);
        x.order(1, SELL, 10, 2, REST);
        x.order(1, BUY, 10, 4, LESS);
        due("nothing left of it: no TAKE", x.count(8), 0);
        due("of(2, 3)", of(x, 2, 3), 9);

        says("Promise 4", "whoever would meet oneself does so in none of four ways");
        for (int mode = 0; mode < 4; mode++) {
            x = withSells(9);
            x.order(2, SELL, 11, 9, REST);
            x.order(1, SELL, 12, 9, REST);
            x.order(1, BUY, 12, 30, mode);
            due("position of mode " + mode, position(x, 1) + position(x, 2), 0);
            for (int i = 0; i < x.count(7); i++) {
                due("who sold in mode " + mode, x.trade(i, 0), 2);
            }
        }
    }

    private static void shared() {
        says("Promise 4", "it has the least of the TAKE, its SIZE and what is left of its GRANT");
        int[][] tops = {{5, 30, 5}, {19, 30, 19}, {20, 30, 20}, {21, 30, 20}, {9, 10, 9}, {10, 10, 10}, {11, 10, 10}};
        for (int[] t : tops) {
            ProRataMarket x = withSellsBy(20, t[1], 900);
            x.order(9, BUY, 10, t[0], REST);
            int first = x.count(7) - 1;
            dueTrade(x, first, 1, 3, 10, t[2], 0);
        }
        ProRataMarket left = withSellsBy(5, 30, 900);
        left.order(9, BUY, 10, 3, REST);
        left.order(9, BUY, 10, 3, REST);
        dueTrade(left, 1, 1, 4, 10, 2, 0);
        dueTrade(left, 0, 1, 4, 10, 1, 2);
        due("the grant is no matter of LEAST", withSellsBy(1, 30, 900).share(1, 1, 1), 1);

        says("Promise 4", "each has R times its SIZE by S, downwards; nothing, if that is less than LEAST");
        int[][] shares = {{1, 9, 0}, {1, 10, 1}, {1, 19, 1}, {2, 19, 0}, {2, 20, 2}, {2, 29, 2}, {3, 29, 0}, {3, 30, 3}};
        for (int[] s : shares) {
            ProRataMarket x = withSells(10, 90);
            x.least(s[0]);
            due("LEAST " + s[0] + ", TAKE " + s[1], x.share(1, s[1], 2), s[2]);
            due("the second one", x.share(2, s[1], 2), s[1] * 90 / 100);
        }
        ProRataMarket lot = withSells(1);
        due("a share of 1 of 1", lot.share(1, 1, 2), 0);
        lot.least(1);
        due("a share of 1 of 1, LEAST 1", lot.share(1, 1, 2), 1);
        ProRataMarket fifty = withSells(1000, 1000);
        fifty.least(50);
        due("a share of 50", fifty.share(2, 100, 2), 50);
        due("a share of 49", fifty.share(2, 99, 2), 0);
        due("all 99 are left over", fifty.share(1, 99, 3), 99);

        says("Promise 4", "by TIME each has as much as it can");
        ProRataMarket c = withSells(3, 3, 3);
        c.order(9, BUY, 10, 8, REST);
        int[][] trades = {{1, 2, 1}, {2, 2, 1}, {3, 2, 1}, {1, 1, 2}, {2, 1, 2}};
        due("count(7)", c.count(7), trades.length);
        for (int i = 0; i < trades.length; i++) {
            dueTrade(c, 4 - i, trades[i][0], 4, 10, trades[i][1], trades[i][2]);
        }

        says("Promise 4", "with nothing left it goes from the BOOK");
        due("of(1, 3)", of(c, 1, 3), THROWN);
        due("of(2, 3)", of(c, 2, 3), THROWN);
        due("of(3, 3)", of(c, 3, 3), 1);
        due("count(0)", c.count(0), 1);
        due("queue", c.queue(SELL, 10, 0), 3);

        says("Promise 4", "a TRADE each of (a), then of (b) by TIME, then of (c) by TIME");
        ProRataMarket all = withSellsBy(3, 9, 20, 4);
        all.order(9, BUY, 10, 17, REST);
        // 3 by grant; 14 of 30 by 6, 20, 4: 2, 9, 1 (nothing): 3 are left over, to the first.
        dueTrade(all, 3, 1, 4, 10, 3, 0);
        dueTrade(all, 2, 1, 4, 10, 2, 1);
        dueTrade(all, 1, 2, 4, 10, 9, 1);
        dueTrade(all, 0, 1, 4, 10, 3, 2);
        due("count(7)", all.count(7), 4);
    }

    // ---- TOP: 4 order, 14 top, 11 of

    private static void topComes() {
        says("Promise 14", "BETTER than all of its SIDE (or there are none), with a GRANT above 0");
        ProRataMarket x = new ProRataMarket();
        x.order(1, BUY, 10, 5, REST);
        due("there are none", x.top(BUY), 1);
        due("the other SIDE", x.top(SELL), NONE);
        x.order(1, BUY, 10, 5, REST);
        due("as good", x.top(BUY), 1);
        x.order(1, BUY, 9, 5, REST);
        due("worse", x.top(BUY), 1);
        x.order(1, BUY, 11, 5, REST);
        due("better by 1", x.top(BUY), 4);
        x.order(2, SELL, 20, 5, REST);
        due("the other SIDE", x.top(SELL), 5);
        x.order(2, SELL, 20, 5, REST);
        due("as good", x.top(SELL), 5);
        x.order(2, SELL, 21, 5, REST);
        due("worse", x.top(SELL), 5);
        x.order(2, SELL, 19, 5, REST);
        due("better by 1", x.top(SELL), 8);
        due("top(0) is another one", x.top(BUY), 4);
        ProRataMarket y = new ProRataMarket();
        y.grant(0);
        y.order(1, BUY, 10, 5, REST);
        due("GRANT 0", y.top(BUY), NONE);
        y.grant(1);
        due("a GRANT that comes later", y.top(BUY), NONE);
        y.order(1, BUY, 11, 5, REST);
        due("GRANT 1", y.top(BUY), 2);
        due("of(2, 5)", of(y, 2, 5), 1);
        y.grant(1000);
        y.order(1, BUY, 12, 5, REST);
        due("GRANT 1000", of(y, 3, 5), 1000);

        says("Promise 14", "an ORDER that rests whole, as it came in while TRADING");
        ProRataMarket z = new ProRataMarket();
        z.order(1, SELL, 10, 1, REST);
        z.order(2, BUY, 10, 2, REST);
        due("1 of 2 rests", z.top(BUY), NONE);
        z.off(2);
        z.order(1, SELL, 10, 1, REST);
        z.order(1, BUY, 10, 2, LESS);
        due("made less itself", z.top(BUY), NONE);
        z.off(4);
        z.order(1, SELL, 10, 1, REST);
        z.order(1, BUY, 10, 2, REST);
        due("its own taken off, it is whole", z.top(BUY), 6);
        z.call();
        z.order(1, BUY, 90, 2, REST);
        due("in a CALL", z.top(BUY), NONE);
        z.open();
        due("behind the CALL", z.top(BUY), NONE);

        says("Promise 14", "the TOP ahead of it is none any more");
        ProRataMarket w = new ProRataMarket();
        w.order(1, SELL, 10, 5, REST);
        w.order(1, SELL, 9, 5, REST);
        due("top(1)", w.top(SELL), 2);
        due("of(1, 5)", of(w, 1, 5), 0);
        w.off(2);
        due("it does not come back", w.top(SELL), NONE);
        due("of(1, 5)", of(w, 1, 5), 0);
        w.order(1, SELL, 10, 5, REST);
        due("as good as the one that was", w.top(SELL), NONE);
        due("alone at a better one", w.order(1, SELL, 9, 5, REST), 4);
        due("top(1)", w.top(SELL), 4);
    }

    private static void topLapses() {
        says("Promise 14", "It LAPSES also: as its GRANT is used up (by (a) alone), as it is CUT or goes, as a CALL begins.");
        for (int take : new int[] {1, 4, 5, 6, 9, 10}) {
            ProRataMarket x = withSellsBy(5, 10);
            x.order(9, BUY, 10, take, REST);
            due("TAKE " + take + ": top", x.top(SELL), take < 5 ? 1 : NONE);
            due("TAKE " + take + ": its grant", of(x, 1, 5), take == 10 ? THROWN : Math.max(0, 5 - take));
        }
        ProRataMarket cut = withSellsBy(5, 10);
        due("refused", cut.cut(1, 10) + cut.cut(1, 0), 2 * NONE);
        due("a CUT that is refused", cut.top(SELL), 1);
        due("cut", cut.cut(1, 9), 10);
        due("CUT", cut.top(SELL), NONE);
        due("its grant", of(cut, 1, 5), 0);
        due("a share of the first lot", cut.share(1, 1, 1), 0);
        ProRataMarket off = withSellsBy(5, 10, 10);
        off.off(2);
        due("another one goes", off.top(SELL), 1);
        off.off(1);
        due("off", off.top(SELL), NONE);
        ProRataMarket own = withSellsBy(5, 10);
        own.order(1, BUY, 10, 1, BOTH);
        due("taken off by a MODE", own.top(SELL), NONE);
        ProRataMarket out = withSellsBy(20, 10);
        out.order(9, BUY, 10, 10, REST);
        due("traded out with a grant left", out.top(SELL), NONE);
        out.order(1, SELL, 10, 3, REST);
        due("the next one has a whole grant", of(out, 3, 5), 20);
        ProRataMarket call = withSellsBy(5, 10);
        call.order(1, BUY, 9, 5, REST);
        call.call();
        due("a CALL, to sell", call.top(SELL), NONE);
        due("a CALL, to buy", call.top(BUY), NONE);
        due("of(1, 5)", of(call, 1, 5), 0);
        due("share", call.share(1, 1, 1), 0);

        says("Promise 14", "(Made less by a MODE it stays TOP.)");
        ProRataMarket less = withSellsBy(5, 10);
        less.order(1, BUY, 10, 9, LESS);
        due("made less to 1", less.top(SELL), 1);
        due("its grant", of(less, 1, 5), 5);
        less.order(1, BUY, 10, 1, LESS);
        due("made less to 0", less.top(SELL), NONE);

        says("Promise 14", "TOP of a SIDE: its NUMBER; NONE: none, others.");
        for (int side : new int[] {-1, 2, LOW, HIGH}) {
            due("top(" + side + ")", withSellsBy(5, 10).top(side), NONE);
        }
        due("top(0)", withSellsBy(5, 10).top(BUY), NONE);
        due("top(1)", withSellsBy(5, 10).top(SELL), 1);
    }

    // ---- 5 off, 6 cut, 7 grant, 8 least

    private static void offAndCut() {
        says("Promise 5", "An ORDER that rests is taken off: its SIZE; NONE: there is none such.");
        ProRataMarket x = new ProRataMarket();
        for (int number : new int[] {0, 1, -1, LOW, HIGH}) {
            due("off(" + number + ") of an empty BOOK", x.off(number), NONE);
        }
        x.order(1, BUY, 5, 1000, REST);
        x.order(1, BUY, 5, 1, REST);
        for (int number : new int[] {0, 3, -1, LOW, HIGH}) {
            due("off(" + number + ") of two", x.off(number), NONE);
        }
        due("off(1)", x.off(1), 1000);
        due("off(1) again", x.off(1), NONE);
        due("off(2)", x.off(2), 1);
        due("count(0)", x.count(0), 0);
        ProRataMarket full = withBuys(60);
        due("the last of a full BOOK", full.off(60), 1);
        due("the first of a full BOOK", full.off(1), 1);
        due("count(0)", full.count(0), 58);
        due("one that traded out", withLast(5).off(1), NONE);

        says("Promise 6", "CUT: what its SIZE was; NONE: others.");
        ProRataMarket y = new ProRataMarket();
        for (int number : new int[] {0, 1, -1, LOW, HIGH}) {
            due("cut(" + number + ", 1) of an empty BOOK", y.cut(number, 1), NONE);
        }
        y.order(1, BUY, 5, 9, REST);
        due("cut(2, 1)", y.cut(2, 1), NONE);
        says("Promise 6", "its SIZE is less (1 at least, less than it is): it keeps its TIME.");
        y.order(2, BUY, 5, 9, REST);
        for (int size : new int[] {9, 10, 1000, 1001, HIGH, 0, -1, LOW}) {
            due("cut(1, " + size + ") of 9", y.cut(1, size), NONE);
            due("of(1, 3)", of(y, 1, 3), 9);
        }
        due("cut(1, 8) of 9", y.cut(1, 8), 9);
        due("cut(1, 1) of 8", y.cut(1, 1), 8);
        due("cut(1, 1) of 1", y.cut(1, 1), NONE);
        due("cut(1, 0) of 1", y.cut(1, 0), NONE);
        due("of(1, 3)", of(y, 1, 3), 1);
        due("of(1, 4)", of(y, 1, 4), 9);
        due("queue", y.queue(BUY, 5, 0), 1);
        due("ahead", y.ahead(2, 0), 1);
    }

    private static void rules() {
        says("Promise 7", "GRANT: what it was; NONE: others. (TOPS keep theirs.)");
        ProRataMarket x = new ProRataMarket();
        for (int grant : new int[] {-1, 1001, LOW, HIGH}) {
            due("grant(" + grant + ")", x.grant(grant), NONE);
            due("count(3)", x.count(3), 20);
        }
        due("grant(0)", x.grant(0), 20);
        due("grant(1000)", x.grant(1000), 0);
        x.order(1, BUY, 5, 5, REST);
        due("grant(0)", x.grant(0), 1000);
        due("the TOP keeps its own", of(x, 1, 5), 1000);
        due("top(0)", x.top(BUY), 1);
        due("grant(0)", x.grant(0), 0);

        says("Promise 8", "LEAST: likewise.");
        ProRataMarket y = new ProRataMarket();
        for (int least : new int[] {0, -1, 51, LOW, HIGH}) {
            due("least(" + least + ")", y.least(least), NONE);
            due("count(4)", y.count(4), 2);
        }
        due("least(1)", y.least(1), 2);
        due("least(50)", y.least(50), 1);
        due("least(50)", y.least(50), 50);
    }

    // ---- 9 call, 10 open, 21 clears

    private static void call() {
        says("Promise 9", "A CALL begins: true; false: it is one.");
        ProRataMarket x = new ProRataMarket();
        due("call", x.call(), true);
        due("call", x.call(), false);
        due("still one", x.count(1), 1);
        due("open", x.open(), 0);
        due("call", x.call(), true);

        says("Promise 9", "ORDERS just rest; nothing MEETS.");
        for (int mode = 0; mode < 4; mode++) {
            x.order(1, BUY, 9, 5, mode);
            x.order(1, SELL, 8, 5, mode);
            x.order(2, SELL, 9, 5, mode);
        }
        due("count(0)", x.count(0), 12);
        due("count(7)", x.count(7), 0);
        due("count(9)", x.count(9), 0);
        due("count(10)", x.count(10), 0);
    }

    private static void openAtAPrice() {
        says("Promise 10", "OPEN: VOLUME (0, if nothing TRADES); NONE: it is TRADING.");
        ProRataMarket x = new ProRataMarket();
        due("TRADING", x.open(), NONE);
        x.call();
        due("an empty BOOK", x.open(), 0);
        due("TRADING again", x.open(), NONE);

        says("Promise 10", "If that is 0 at all PRICES nothing is done but that it is TRADING then");
        ProRataMarket y = withLast(7);
        y.call();
        y.order(1, BUY, 9, 5, REST);
        due("buys alone", y.open(), 0);
        due("count(1)", y.count(1), 0);
        y.call();
        y.order(1, SELL, 10, 5, REST);
        due("a sell 1 above", y.open(), 0);
        due("count(0)", y.count(0), 2);
        due("LAST", y.count(2), 7);
        due("count(7)", y.count(7), 1);
        due("of(3, 3)", of(y, 3, 3), 5);
        y.call();
        y.order(2, SELL, 9, 1, REST);
        due("a sell at the price", y.open(), 1);
        due("LAST", y.count(2), 9);
        ProRataMarket sells = new ProRataMarket();
        sells.call();
        sells.order(1, SELL, 1, 5, REST);
        due("sells alone", sells.open(), 0);

        says("Promise 10", "(p 1 to 9999999, whether there are ORDERS at it or not)");
        ProRataMarket low = new ProRataMarket();
        low.call();
        low.order(1, SELL, 1, 5, REST);
        low.order(2, BUY, 9, 5, REST);
        due("nearest to LAST 0: no less than 1", low.clears(0), 1);
        due("open", low.open(), 5);
        ProRataMarket high = withLast(9999999);
        high.call();
        high.order(1, SELL, 3, 5, REST);
        high.order(2, BUY, 9999999, 5, REST);
        due("nearest to LAST 9999999", high.clears(0), 9999999);
        due("open", high.open(), 5);
        due("money", money(high, 1), 49999995);
        // Even at 4 to 8, where there are no ORDERS.
        ProRataMarket gap = withLast(6);
        gap.call();
        gap.order(1, SELL, 3, 5, REST);
        gap.order(2, BUY, 3, 1, REST);
        gap.order(3, BUY, 9, 5, REST);
        gap.order(4, SELL, 9, 1, REST);
        due("clears(0)", gap.clears(0), 6);
        due("clears(2)", gap.clears(2), 0);
        due("open", gap.open(), 5);
        due("LAST", gap.count(2), 6);
    }

    private static void openByRules() {
        says("Promise 10", "p is the one of the greatest VOLUME, of these of the least difference of B and A, of these the nearest to LAST, of these the lesser");
        // Least difference: 5 at 15 and less, 0 at 16 to 24, 5 the other way from 25 on. No ORDER is within 1 of
        // another, so that the first and the last of the even prices are found beside the ORDERS at 15 and 25 alone.
        int[] lasts = {1, 15, 16, 17, 20, 23, 24, 25, 90};
        int[] want = {16, 16, 16, 17, 20, 23, 24, 24, 24};
        for (int i = 0; i < lasts.length; i++) {
            ProRataMarket x = withLast(lasts[i]);
            x.call();
            x.order(1, SELL, 5, 10, REST);
            x.order(2, BUY, 40, 10, REST);
            x.order(3, BUY, 15, 5, REST);
            x.order(4, SELL, 25, 5, REST);
            due("LAST " + lasts[i], x.clears(0), want[i]);
            due("clears(2)", x.clears(2), 0);
        }
        // The greatest VOLUME, far from LAST and of a great difference: 6 at 20, else 5.
        ProRataMarket v = withLast(2);
        v.call();
        v.order(1, SELL, 1, 5, REST);
        v.order(2, BUY, 20, 100, REST);
        v.order(3, SELL, 20, 1, REST);
        due("VOLUME first", v.clears(0), 20);
        due("clears(1)", v.clears(1), 6);
        due("clears(2)", v.clears(2), 94);
        // As far from even on both sides of 10: 3 too many to buy, 3 too many to sell; nearest to LAST is it.
        int[] near = {5, 10, 11, 30};
        int[] at = {5, 10, 11, 15};
        for (int i = 0; i < near.length; i++) {
            ProRataMarket d = withLast(near[i]);
            d.call();
            d.order(1, SELL, 5, 10, REST);
            d.order(2, BUY, 15, 10, REST);
            d.order(3, BUY, 10, 3, REST);
            d.order(4, SELL, 11, 3, REST);
            due("LAST " + near[i], d.clears(0), at[i]);
            due("clears(2)", d.clears(2), at[i] > 10 ? -3 : 3);
        }

        says("Promise 10", "PRICES of which all can be TRADED within the VOLUME are, at the next one what is left of it is SHARED (there is no TOP).");
        ProRataMarket just = new ProRataMarket();
        just.call();
        just.order(1, BUY, 12, 4, REST);
        just.order(2, BUY, 11, 6, REST);
        just.order(3, BUY, 10, 5, REST);
        just.order(4, SELL, 10, 10, REST);
        due("just two prices", just.open(), 10);
        due("count(7)", just.count(7), 3);
        dueTrade(just, 2, 1, 0, 11, 4, 3);
        dueTrade(just, 1, 2, 0, 11, 6, 3);
        dueTrade(just, 0, 4, 0, 11, 10, 3);
        due("of(3, 3)", of(just, 3, 3), 5);
        ProRataMarket part = new ProRataMarket();
        part.order(1, SELL, 9, 10, REST);
        due("a TOP till the CALL", part.top(SELL), 1);
        part.call();
        part.order(2, SELL, 9, 30, REST);
        part.order(3, SELL, 9, 4, REST);
        part.order(4, BUY, 9, 20, REST);
        due("a price in part", part.open(), 20);
        // 20 of 44 by 10, 30, 4: 4, 13, 1 (nothing): 3 are left over, to the first.
        due("count(7)", part.count(7), 4);
        dueTrade(part, 3, 4, 0, 9, 20, 3);
        dueTrade(part, 2, 1, 0, 9, 4, 1);
        dueTrade(part, 1, 2, 0, 9, 13, 1);
        dueTrade(part, 0, 1, 0, 9, 3, 2);
        due("of(1, 3)", of(part, 1, 3), 3);
        due("of(3, 3)", of(part, 3, 3), 4);
        due("no TOP", part.top(SELL), NONE);

        says("Promise 10", "All TRADE at p (with 0: nobody comes in): first the buying SIDE, PRICE by PRICE, by TIME, then the selling one.");
        ProRataMarket all = new ProRataMarket();
        all.call();
        all.order(1, SELL, 3, 2, REST);
        all.order(1, BUY, 7, 1, REST);
        all.order(2, BUY, 8, 1, REST);
        all.order(3, BUY, 8, 1, REST);
        all.order(4, SELL, 2, 1, REST);
        due("open", all.open(), 3);
        int[] numbers = {3, 4, 2, 5, 1};
        for (int i = 0; i < 5; i++) {
            dueTrade(all, 4 - i, numbers[i], 0, 3, i == 4 ? 2 : 1, 3);
        }
        due("one's own, too", position(all, 1), -1);
        due("money(1)", money(all, 1), 3);
        due("money(2)", money(all, 2), -3);

        says("Promise 10", "LAST is p. It is TRADING then.");
        due("count(2)", all.count(2), 3);
        due("count(1)", all.count(1), 0);
        due("call", all.call(), true);
    }

    private static void openFull() {
        says("Promise 10", "at a PRICE p BUYS are those to buy at p and more, together B, SELLS those to sell at p and less, together A");
        ProRataMarket x = new ProRataMarket();
        x.call();
        for (int i = 0; i < 30; i++) {
            x.order(1, BUY, 100 + i, 1000, REST);
            x.order(2, SELL, 99 - i, 1000, REST);
        }
        due("clears(1) of 60", x.clears(1), 30000);
        due("clears(0) of 60", x.clears(0), 99);
        due("open of 60", x.open(), 30000);
        due("count(0)", x.count(0), 0);
        due("count(7)", x.count(7), 60);
        due("count(8)", x.count(8), 30000);
        dueTrade(x, 59, 59, 0, 99, 1000, 3);
        dueTrade(x, 30, 1, 0, 99, 1000, 3);
        dueTrade(x, 29, 60, 0, 99, 1000, 3);
        dueTrade(x, 0, 2, 0, 99, 1000, 3);
        due("money(1)", money(x, 1), -2970000);
        ProRataMarket one = new ProRataMarket();
        one.call();
        for (int i = 0; i < 59; i++) {
            one.order(1, BUY, 9, 1000, REST);
        }
        one.order(2, SELL, 9, 1, REST);
        due("1 of 59000", one.open(), 1);
        dueTrade(one, 1, 1, 0, 9, 1, 2);
        due("of(1, 3)", of(one, 1, 3), 999);
    }

    private static void clears() {
        says("Promise 21", "0 for VOLUME 0 (also while TRADING: 0); NONE: others.");
        ProRataMarket x = withLast(7);
        for (int what = 0; what < 3; what++) {
            due("TRADING, clears(" + what + ")", x.clears(what), 0);
        }
        x.call();
        for (int what = 0; what < 3; what++) {
            due("an empty BOOK, clears(" + what + ")", x.clears(what), 0);
        }
        x.order(1, BUY, 9, 5, REST);
        x.order(2, SELL, 10, 4, REST);
        for (int what = 0; what < 3; what++) {
            due("1 apart, clears(" + what + ")", x.clears(what), 0);
        }
        x.order(2, SELL, 9, 4, REST);
        int[] want = {9, 4, 1};
        for (int what = 0; what < 3; what++) {
            due("clears(" + what + ")", x.clears(what), want[what]);
        }
        for (int what : new int[] {-1, 3, LOW, HIGH}) {
            due("clears(" + what + ")", x.clears(what), NONE);
            due("clears(" + what + ") of a new object", new ProRataMarket().clears(what), NONE);
        }
        due("nothing is another one", x.count(0) + x.count(1), 4);
        x.off(5);
        for (int what = 0; what < 3; what++) {
            due("1 apart again, clears(" + what + ")", x.clears(what), 0);
        }
        x.order(2, SELL, 9, 4, REST);
        x.open();
        for (int what = 0; what < 3; what++) {
            due("TRADING again, clears(" + what + ")", x.clears(what), 0);
        }
    }

    // ---- 11 of, 12 level, 13 queue, 15 ahead

    private static void of() {
        says("Promise 11", "what is left of its GRANT as TOP (0: it is none); NoSuchElementException: others, none such.");
        ProRataMarket x = new ProRataMarket();
        for (int number : new int[] {0, 1, -1, LOW, HIGH}) {
            due("of(" + number + ", 0) of an empty BOOK", of(x, number, 0), THROWN);
        }
        x.order(9, SELL, 9999999, 214, REST);
        x.order(0, SELL, 9999999, 1, REST);
        long[] first = {9, 1, 9999999, 214, 214, 20};
        long[] second = {0, 1, 9999999, 1, 1, 0};
        for (int what = 0; what < 6; what++) {
            due("of(1, " + what + ")", of(x, 1, what), first[what]);
            due("of(2, " + what + ")", of(x, 2, what), second[what]);
            due("of(3, " + what + ")", of(x, 3, what), THROWN);
            due("of(0, " + what + ")", of(x, 0, what), THROWN);
        }
        for (int what : new int[] {-1, 6, LOW, HIGH}) {
            due("of(1, " + what + ")", of(x, 1, what), THROWN);
        }
        x.off(1);
        due("one that went", of(x, 1, 0), THROWN);
        due("the 60th", of(withBuys(60), 60, 2), 5);

        says("Promise 11", "the SIZE with which it came in");
        ProRataMarket y = withSells(10);
        y.order(9, BUY, 10, 3, REST);
        y.order(1, BUY, 10, 2, LESS);
        y.cut(1, 4);
        due("of(1, 3)", of(y, 1, 3), 4);
        due("of(1, 4)", of(y, 1, 4), 10);
        y.order(5, BUY, 10, 6, REST);
        due("of(4, 3)", of(y, 4, 3), 2);
        due("of(4, 4)", of(y, 4, 4), 6);
    }

    private static void level() {
        says("Promise 12", "how many PRICES (k NONE); NONE: others, none such.");
        ProRataMarket x = new ProRataMarket();
        for (int what = 0; what < 3; what++) {
            due("level(0, NONE, " + what + ") of an empty BOOK", x.level(BUY, NONE, what), 0);
            due("level(1, 0, " + what + ") of an empty BOOK", x.level(SELL, 0, what), NONE);
        }
        x.order(1, BUY, 1, 1000, REST);
        x.order(1, BUY, 1, 1000, REST);
        x.order(1, BUY, 2, 1, REST);
        int[][] want = {{2, 1, 1}, {1, 2000, 2}};
        for (int what = 0; what < 3; what++) {
            due("how many", x.level(BUY, NONE, what), 2);
            due("how many of the other SIDE", x.level(SELL, NONE, what), 0);
            due("the first", x.level(BUY, 0, what), want[0][what]);
            due("the last", x.level(BUY, 1, what), want[1][what]);
            for (int k : new int[] {2, 59, 60, 61, HIGH, -2, LOW}) {
                due("level(0, " + k + ", " + what + ")", x.level(BUY, k, what), NONE);
            }
            for (int side : new int[] {-1, 2, LOW, HIGH}) {
                due("level(" + side + ", NONE, " + what + ")", x.level(side, NONE, what), NONE);
                due("level(" + side + ", 0, " + what + ")", x.level(side, 0, what), NONE);
            }
        }
        for (int what : new int[] {-1, 3, LOW, HIGH}) {
            due("level(0, 0, " + what + ")", x.level(BUY, 0, what), NONE);
            due("level(0, NONE, " + what + ")", x.level(BUY, NONE, what), NONE);
            due("level(1, NONE, " + what + ")", x.level(SELL, NONE, what), NONE);
        }

        says("Promise 12", "Of the k-th PRICE of a SIDE, the best first");
        ProRataMarket y = new ProRataMarket();
        for (int i = 0; i < 60; i++) {
            y.order(1, SELL, 9999999 - i, 1, REST);
        }
        due("how many of 60", y.level(SELL, NONE, 0), 60);
        due("the best of 60", y.level(SELL, 0, 0), 9999940);
        due("the worst of 60", y.level(SELL, 59, 0), 9999999);
        due("none such", y.level(SELL, 60, 0), NONE);
        due("SIZES together of 60", withBuys(60).level(BUY, 0, 1), 60);
        due("ORDERS of 60", withBuys(60).level(BUY, 0, 2), 60);
    }

    private static void queue() {
        says("Promise 13", "The NUMBER of the k-th ORDER at a PRICE of a SIDE by TIME; NONE: others, none such.");
        due("an empty BOOK", new ProRataMarket().queue(BUY, 5, 0), NONE);
        ProRataMarket x = withBuys(60);
        due("the first", x.queue(BUY, 5, 0), 1);
        due("the last of 60", x.queue(BUY, 5, 59), 60);
        for (int k : new int[] {60, 61, HIGH, -1, -2, LOW}) {
            due("queue(0, 5, " + k + ")", x.queue(BUY, 5, k), NONE);
        }
        for (int price : new int[] {4, 6, 0, -1, 9999999, 10000000, LOW, HIGH}) {
            due("queue(0, " + price + ", 0)", x.queue(BUY, price, 0), NONE);
        }
        for (int side : new int[] {SELL, -1, 2, LOW, HIGH}) {
            due("queue(" + side + ", 5, 0)", x.queue(side, 5, 0), NONE);
        }
        x.off(1);
        due("the first went", x.queue(BUY, 5, 0), 2);
        due("59 are left", x.queue(BUY, 5, 59), NONE);
    }

    private static void ahead() {
        says("Promise 15", "of all at BETTER PRICES of its SIDE (1); NONE: others, none such.");
        due("an empty BOOK", new ProRataMarket().ahead(1, 0), NONE);
        ProRataMarket x = withBuys(59);
        x.order(2, BUY, 4, 7, REST);
        due("the first, at its PRICE", x.ahead(1, 0), 0);
        due("the first, BETTER ones", x.ahead(1, 1), 0);
        due("the last at its PRICE", x.ahead(59, 0), 58);
        due("at its PRICE alone", x.ahead(60, 0), 0);
        due("all are BETTER", x.ahead(60, 1), 59);
        for (int what : new int[] {-1, 2, LOW, HIGH}) {
            due("ahead(60, " + what + ")", x.ahead(60, what), NONE);
        }
        for (int number : new int[] {0, 61, -1, LOW, HIGH}) {
            due("ahead(" + number + ", 0)", x.ahead(number, 0), NONE);
            due("ahead(" + number + ", 1)", x.ahead(number, 1), NONE);
        }
        ProRataMarket y = new ProRataMarket();
        y.order(1, SELL, 9999999, 1, REST);
        y.order(1, SELL, 9999998, 2, REST);
        y.order(1, BUY, 9999997, 4, REST);
        due("the other SIDE does not count", y.ahead(1, 1), 2);
        due("the other SIDE does not count", y.ahead(3, 1), 0);
    }

    // ---- 16 share, 17 takeFor, 18 splits

    private static void share() {
        says("Promise 16", "What an ORDER would have of a TAKE (1 to all SIZES of its PRICE) SHARED there now");
        ProRataMarket x = withSellsBy(5, 10, 20);
        x.order(3, SELL, 11, 7, REST);
        int[] none = {0, -1, 31, 37, LOW, HIGH};
        for (int what = 0; what < 4; what++) {
            for (int take : none) {
                due("share(1, " + take + ", " + what + ")", x.share(1, take, what), NONE);
            }
        }
        int[][] want = {{1, 10, 0, 20}, {1, 5, 0, 0}, {0, 5, 0, 20}, {0, 0, 0, 0}};
        for (int what = 0; what < 4; what++) {
            due("share(1, 1, " + what + ")", x.share(1, 1, what), want[what][0]);
            due("share(1, 30, " + what + ")", x.share(1, 30, what), want[what][1]);
            due("share(2, 1, " + what + ")", x.share(2, 1, what), want[what][2]);
            due("share(2, 30, " + what + ")", x.share(2, 30, what), want[what][3]);
        }
        due("its PRICE alone counts", x.share(3, 7, 0), 7);
        due("its PRICE alone counts", x.share(3, 8, 0), NONE);
        ProRataMarket full = new ProRataMarket();
        full.grant(0);
        for (int i = 0; i < 60; i++) {
            full.order(1, BUY, 5, 1000, REST);
        }
        due("60 of 1000", full.share(60, 60000, 0), 1000);
        due("60 of 1000", full.share(60, 59999, 2), 999);
        due("60 of 1000", full.share(60, 59999, 3), 0);
        due("60 of 1000", full.share(59, 59999, 3), 1);
        due("60 of 1000", full.share(60, 60001, 0), NONE);

        says("Promise 16", "what 0: all, 1: by its GRANT, 2: its share, 3: of what is left over; NONE: others, none such.");
        for (int what : new int[] {-1, 4, LOW, HIGH}) {
            due("share(1, 1, " + what + ")", x.share(1, 1, what), NONE);
        }
        for (int number : new int[] {0, 4, -1, LOW, HIGH}) {
            due("share(" + number + ", 1, 0)", x.share(number, 1, 0), NONE);
        }
        due("an empty BOOK", new ProRataMarket().share(1, 1, 0), NONE);
        due("nothing is another one", of(x, 1, 3) + of(x, 1, 5), 15);
    }

    private static void takeFor() {
        says("Promise 17", "The least TAKE by which it would have something (what 0), all of its SIZE (1); NONE: others, none such.");
        ProRataMarket one = withSells(1);
        due("1 alone, something", one.takeFor(1, 0), 1);
        due("1 alone, all", one.takeFor(1, 1), 1);
        ProRataMarket x = withSellsBy(5, 10, 20);
        due("the TOP, something", x.takeFor(1, 0), 1);
        // Of 8: 5 by grant, 3 of 25 by 5, 20: 0, 2; 1 is left over. Of 7: 2 of 25: 0, 1 (nothing); 2 left over.
        due("the second, something", x.takeFor(2, 0), 8);
        due("the second of 7", x.share(2, 7, 0), 0);
        // The first one has all if 5 are left of R by the share of 20: R less R * 20 / 25.
        due("the TOP, all", x.takeFor(1, 1), 26);
        due("the TOP of 25", x.share(1, 25, 0), 9);
        due("the TOP of 26", x.share(1, 26, 0), 10);
        due("the second, all", x.takeFor(2, 1), 30);
        ProRataMarket whole = withSellsBy(20, 10, 20);
        due("all by the grant", whole.takeFor(1, 1), 10);
        due("behind all of it", whole.takeFor(2, 0), 11);
        for (int what : new int[] {-1, 2, LOW, HIGH}) {
            due("takeFor(1, " + what + ")", x.takeFor(1, what), NONE);
        }
        for (int number : new int[] {0, 3, -1, LOW, HIGH}) {
            due("takeFor(" + number + ", 0)", x.takeFor(number, 0), NONE);
        }
        due("an empty BOOK", new ProRataMarket().takeFor(1, 0), NONE);
        ProRataMarket full = new ProRataMarket();
        full.grant(0);
        full.least(50);
        for (int i = 0; i < 60; i++) {
            full.order(1, BUY, 5, 1000, REST);
        }
        due("the last of 60, all", full.takeFor(60, 1), 60000);
        due("the last of 60, a share of 50", full.takeFor(60, 0), 3000);
        ProRataMarket by = withSells(1, 10, 10);
        by.least(1);
        // LEAST 1, S 21: of 3 the second has 3 * 10 / 21 = 1; of 2 nothing but what the first leaves over.
        due("the second, by what is left over", by.takeFor(2, 0), 2);
        due("the third, by a share", by.takeFor(3, 0), 3);
        due("the third of 2", by.share(3, 2, 0), 0);
        // A larger PRICE that was looked at just before is none of it.
        ProRataMarket levels = withSells(900, 900, 900);
        levels.order(4, SELL, 11, 6, REST);
        levels.order(5, SELL, 11, 4, REST);
        // By 6 and 4 the first has all of 6 if 6 of R are left by the share of 4: of 8 it has 5, of 9 it has 6.
        for (int what = 0; what < 2; what++) {
            due("of the larger PRICE", levels.share(3, 2700, 0), 900);
            due("the first at the other PRICE", levels.takeFor(4, what), what == 0 ? 1 : 9);
            due("of the larger PRICE", levels.share(3, 2700, 0), 900);
            due("the second at the other PRICE", levels.takeFor(5, what), what == 0 ? 5 : 10);
            due("of the larger PRICE", levels.share(3, 2700, 0), 900);
            due("in parts at the other PRICE", levels.splits(5, 2, 7), -1);
            due("in parts at the other PRICE, of all", levels.splits(5, 2, 10), 0);
            due("in parts at the other PRICE, of more", levels.splits(5, 2, 11), NO_SPLIT);
        }
        ProRataMarket even = withSells(30, 10);
        even.least(1);
        due("a share of just 1", even.takeFor(2, 0), 4);
        even.least(2);
        due("a share of just 2", even.takeFor(2, 0), 8);
        due("in parts", even.splits(2, 9, 40), 0);
        due("behind that in parts", even.takeFor(2, 0), 8);
        due("behind that in parts, all", even.takeFor(2, 1), 40);
        // By 1001 the first one is full by what is left over, and the second has the 1 behind it.
        due("the first of 60, all", full.takeFor(1, 1), 1000);
        due("the second of 60, something", full.takeFor(2, 0), 1001);
    }

    private static void splits() {
        says("Promise 18", "were it n ORDERS (2 to 9, SIZE n at least; the first ones 1 more each, if SIZE by n leaves something)");
        ProRataMarket x = withSells(9, 8, 2, 1);
        for (int n : new int[] {1, 0, -1, 10, LOW, HIGH}) {
            due("splits(1, " + n + ", 5)", x.splits(1, n, 5), NO_SPLIT);
        }
        due("9 in 9 of all", x.splits(1, 9, 20), 0);
        due("9 in 2 of all", x.splits(1, 2, 20), 0);
        due("8 in 8 of all", x.splits(2, 8, 20), 0);
        due("8 in 9", x.splits(2, 9, 20), NO_SPLIT);
        due("2 in 2 of all", x.splits(3, 2, 20), 0);
        due("2 in 3", x.splits(3, 3, 20), NO_SPLIT);
        due("1 in 2", x.splits(4, 2, 20), NO_SPLIT);
        ProRataMarket big = withSells(1000, 1000);
        due("1000 in 9", big.splits(2, 9, 2000), 0);
        due("1000 in 10", big.splits(2, 10, 2000), NO_SPLIT);
        // 10 of 14 by 7, 7: 5 each. In 3, 2, 2: 5; 2, 1 (nothing), 1 (nothing): 3 left over, 2 to the first.
        ProRataMarket y = withSells(7, 7);
        due("7 in 3", y.splits(2, 3, 10), 3 - 5);
        // LEAST 1, 13 of 14: 6 and 6, 1 left over to the first. In 4, 3: 3, 2: 6 as well, by what is left over.
        y.least(1);
        due("7 in 2", y.splits(2, 2, 13), 0);
        // 4 of 14: 2 each. In 3, 2, 2: 2; 0, 0, 0: 2 left over, to the first.
        due("7 in 3 of 4", y.splits(2, 3, 4), -2);

        says("Promise 18", "one behind the other at its place of TIME, none of them TOP, than it has, if it were no TOP either (below 0: less)");
        // The first one in parts: 10 of 14: what is left over goes to its parts: 2 and 3 for 5.
        ProRataMarket first = withSells(7, 7);
        due("ahead of the others", first.splits(1, 3, 10), 0);
        first.least(4);
        // 6 of 14 by LEAST 4: 3 (nothing) each, 6 to the first.
        due("all to the first, in parts too", first.splits(1, 7, 6), 0);
        due("none to the second", first.splits(2, 7, 6), 0);
        // 9 of 14: 4 each, 1 to the first. In parts of 4, 3: 2, 1 (nothing): 5 left over to them.
        due("splits(1, 2, 9)", first.splits(1, 2, 9), 0);
        due("splits(2, 2, 9)", first.splits(2, 2, 9), 2 - 4);
        // A TOP is counted without its grant on both sides; another TOP keeps its own.
        ProRataMarket top = withSellsBy(6, 8, 8);
        due("the TOP as none, of 6: 3, 3; in 4, 4: 1, 1 (nothing): 3 left over", top.splits(1, 2, 6), 0);
        due("behind the TOP, of 6: nothing", top.splits(2, 2, 6), 0);
        due("behind the TOP, of 11: 5 of 10: 4; in 4, 4: 2, 2", top.splits(2, 2, 11), 0);
        due("behind the TOP, of 9: 3 of 10: 2; in 4, 4: 1, 1 (nothing)", top.splits(2, 2, 9), 1 - 2);
        due("still TOP", top.top(SELL), 1);

        says("Promise 18", "-2000000: others, none such.");
        for (int take : new int[] {0, -1, 21, LOW, HIGH}) {
            due("splits(1, 2, " + take + ")", x.splits(1, 2, take), NO_SPLIT);
        }
        due("splits(1, 2, 1)", x.splits(1, 2, 1), 0);
        for (int number : new int[] {0, 5, -1, LOW, HIGH}) {
            due("splits(" + number + ", 2, 5)", x.splits(number, 2, 5), NO_SPLIT);
        }
        due("an empty BOOK", new ProRataMarket().splits(1, 2, 1), NO_SPLIT);
        ProRataMarket full = new ProRataMarket();
        full.grant(0);
        for (int i = 0; i < 60; i++) {
            full.order(1, BUY, 5, 9, REST);
        }
        due("9 parts in a full BOOK", full.splits(60, 9, 540), 0);
        due("of 541", full.splits(60, 9, 541), NO_SPLIT);
        // 180 of 540: 3 each; the parts of 1 have none, and all that is left over goes to the first.
        due("9 parts in a full BOOK", full.splits(60, 9, 180), -3);
    }

    // ---- 19 would, 20 worth

    private static void wouldArguments() {
        says("Promise 19", "NONE: others (as order()).");
        int[][] others = {{-1, 0, 1, 1, 0}, {10, 0, 1, 1, 0}, {LOW, 0, 1, 1, 0}, {HIGH, 0, 1, 1, 0},
            {1, -1, 1, 1, 0}, {1, 2, 1, 1, 0}, {1, LOW, 1, 1, 0}, {1, HIGH, 1, 1, 0}, {1, 0, 0, 1, 0},
            {1, 0, -1, 1, 0}, {1, 0, 10000000, 1, 0}, {1, 0, LOW, 1, 0}, {1, 0, HIGH, 1, 0}, {1, 0, 1, 0, 0},
            {1, 0, 1, -1, 0}, {1, 0, 1, 1001, 0}, {1, 0, 1, LOW, 0}, {1, 0, 1, HIGH, 0}, {1, 0, 1, 1, -1},
            {1, 0, 1, 1, 4}, {1, 0, 1, 1, LOW}, {1, 0, 1, 1, HIGH}};
        int[][] tooDear = {{1, 0, 9999999, 215, 0}, {1, 0, 4194304, 512, 0}, {1, 1, 8589935, 500, 0}};
        ProRataMarket x = withSells(3);
        for (int[][] table : new int[][][] {others, tooDear}) {
            for (int[] o : table) {
                for (int what = 0; what < 4; what++) {
                    due("would" + Arrays.toString(o) + " what " + what, x.would(o[0], o[1], o[2], o[3], o[4], what), NONE);
                }
                due("worth" + Arrays.toString(o), x.worth(o[0], o[1], o[2], o[3], o[4]), NONE);
            }
        }
        for (int what : new int[] {-1, 4, LOW, HIGH}) {
            due("would what " + what, x.would(2, BUY, 10, 1, REST, what), NONE);
        }
        int[][] sound = {{0, 0, 1, 1, 0}, {9, 1, 9999999, 1, 3}, {5, 0, 2147483, 1000, 1}, {5, 1, 9999999, 214, 2}};
        int[] rest = {1, 1, 997, 214};
        for (int i = 0; i < sound.length; i++) {
            int[] o = sound[i];
            due("would" + Arrays.toString(o) + " rest", x.would(o[0], o[1], o[2], o[3], o[4], 1), rest[i]);
        }
        due("none came", x.count(5), 1);
    }

    private static void would() {
        says("Promise 19", "what 0: how many lots it would TRADE, 1: how many would rest (0, if no room were left then), 2: at which PRICE it would TRADE last (0: none)");
        ProRataMarket empty = new ProRataMarket();
        int[] alone = {0, 7, 0, 0};
        for (int what = 0; what < 4; what++) {
            due("would .. " + what + " on an empty BOOK", empty.would(1, BUY, 5, 7, REST, what), alone[what]);
        }
        ProRataMarket last = withLast(77);
        due("an earlier LAST is none of it", last.would(1, BUY, 5, 7, REST, 2), 0);
        due("earlier lots are none of it", last.would(1, BUY, 5, 7, REST, 0), 0);
        // Nor is what another one would have done.
        ProRataMarket two = withSells(10);
        due("one that would TRADE", two.would(2, BUY, 10, 7, REST, 2), 10);
        due("one that would not", two.would(2, BUY, 9, 7, REST, 2), 0);
        due("one that would not", two.would(2, BUY, 9, 7, REST, 0), 0);
        due("one that would take off", two.would(1, BUY, 10, 7, REST, 3), 10);
        due("one that would make less", two.would(1, BUY, 10, 7, LESS, 3), 7);
        due("one that would not", two.would(2, BUY, 10, 7, LESS, 3), 0);
        due("worth", two.worth(2, BUY, 10, 7, REST), 70);
        due("worth of one that would not", two.worth(2, BUY, 9, 7, REST), 0);
        ProRataMarket full = withBuys(60);
        due("no room", full.would(2, BUY, 5, 7, REST, 1), 0);
        due("no room", full.would(2, SELL, 6, 7, REST, 1), 0);
        due("all of it trades", full.would(2, SELL, 5, 60, REST, 1), 0);
        due("all of it trades", full.would(2, SELL, 5, 60, REST, 0), 60);
        due("it makes room", full.would(2, SELL, 5, 61, REST, 1), 1);
        due("its own made room", full.would(1, SELL, 5, 7, REST, 1), 7);
        due("less, not taken off", full.would(1, SELL, 5, 61, LESS, 1), 1);
        full.off(1);
        due("room for the last one", full.would(2, BUY, 5, 7, REST, 1), 7);

        says("Promise 19", "Were an ORDER to come in while TRADING (be it a CALL or not)");
        ProRataMarket c = withSells(3);
        c.call();
        c.order(2, BUY, 12, 5, REST);
        due("it would TRADE", c.would(3, BUY, 10, 9, REST, 0), 3);
        due("it would TRADE at", c.would(3, BUY, 10, 9, REST, 2), 10);
        due("to sell", c.would(3, SELL, 12, 9, REST, 1), 4);
        due("worth", c.worth(3, SELL, 12, 9, REST), 60);
        due("it is a CALL still", c.count(1), 1);
        due("count(5)", c.count(5), 2);
        for (int i = c.count(0); i < 60; i++) {
            c.order(4, BUY, 1, 1, REST);
        }
        due("a CALL and 60: none would rest", c.would(3, BUY, 1, 9, REST, 1), 0);
        due("a CALL and 60: it would TRADE", c.would(3, SELL, 1, 900, REST, 0), 63);
        due("a CALL and 60: order", c.order(3, SELL, 1, 900, REST), -3);

        says("Promise 19", "3: how many lots of its TRADER's ORDERS would be taken off, made less");
        int[] lots = {10, 0, 10, 8};
        for (int mode = 0; mode < 4; mode++) {
            ProRataMarket x = withSells(10);
            x.order(2, SELL, 10, 5, REST);
            x.order(1, SELL, 11, 4, REST);
            due("mode " + mode, x.would(1, BUY, 10, 8, mode, 3), lots[mode]);
            due("mode " + mode + ": would rest", x.would(1, BUY, 10, 8, mode, 1), mode == REST ? 3 : 0);
            due("mode " + mode + ": would TRADE", x.would(1, BUY, 10, 8, mode, 0), mode == REST ? 5 : 0);
            due("mode " + mode + ": would TRADE at", x.would(1, BUY, 10, 8, mode, 2), mode == REST ? 10 : 0);
            due("none of its own", x.would(3, BUY, 10, 8, mode, 3), 0);
            due("none reached", x.would(1, BUY, 9, 8, mode, 3), 0);
            due("count(9)", x.count(9), 0);
            due("count(10)", x.count(10), 0);
            due("of(1, 3)", of(x, 1, 3), 10);
        }
        ProRataMarket off = withSells(10);
        off.order(2, SELL, 20, 5, REST);
        off.order(1, BUY, 10, 3, LESS);
        off.order(1, BUY, 10, 3, BOTH);
        due("earlier ones are none of it", off.would(1, BUY, 10, 3, REST, 3), 0);
    }

    private static void worth() {
        says("Promise 20", "What it would pay (get, to sell) for all lots that it would TRADE; NONE: likewise.");
        ProRataMarket x = new ProRataMarket();
        due("an empty BOOK", x.worth(1, BUY, 5, 7, REST), 0);
        due("an empty BOOK", x.worth(1, SELL, 5, 7, REST), 0);
        for (int i = 0; i < 5; i++) {
            x.order(1, BUY, 9999999, 200, REST);
        }
        due("beyond an int", x.worth(2, SELL, 1, 1000, REST), 9999999000L);
        due("one lot", x.worth(2, SELL, 9999999, 1, REST), 9999999);
        due("its own", x.worth(1, SELL, 1, 1000, REST), 0);
        due("money is as it was", money(x, 2), 0);
        x.order(2, SELL, 1, 1000, REST);
        due("as it was done", money(x, 2), 9999999000L);
        due("what was done is none of it", x.worth(2, SELL, 1, 1000, REST), 0);
        ProRataMarket y = withSells(3);
        y.order(2, SELL, 11, 3, REST);
        due("two PRICES to buy", y.worth(5, BUY, 11, 9, REST), 63);
        for (int trader = 0; trader < 10; trader++) {
            for (int again = 0; again < 2; again++) {
                due("trader " + trader, y.worth(trader, BUY, 11, 9, REST), trader == 1 ? 33 : trader == 2 ? 30 : 63);
            }
        }
        due("one PRICE to buy", y.worth(5, BUY, 10, 9, REST), 30);
        due("none", y.worth(5, BUY, 9, 9, REST), 0);
    }

    // ---- 22 trade, 23 position, 24 money, 25 count

    private static void trade() {
        says("Promise 22", "Of the i-th latest TRADE (0: the latest; 60 are kept)");
        ProRataMarket x = new ProRataMarket();
        for (int i : new int[] {0, 1, 59, -1, LOW, HIGH}) {
            due("trade(" + i + ", 0) of none", x.trade(i, 0), NONE);
        }
        for (int n = 1; n <= 125; n++) {
            x.order(1, BUY, n, 1, REST);
            x.order(2, SELL, n, 1, REST);
            int kept = Math.min(n, 60);
            due("count(7) of " + n, x.count(7), kept);
            due("the latest of " + n, x.trade(0, 2), n);
            due("the oldest of " + n, x.trade(kept - 1, 2), n - kept + 1);
            due("none behind it of " + n, x.trade(kept, 2), NONE);
        }
        for (int i : new int[] {60, 61, 119, 120, -1, -60, LOW, HIGH}) {
            due("trade(" + i + ", 0)", x.trade(i, 0), NONE);
        }
        due("what would be is no TRADE", x.would(1, BUY, 5, 5, REST, 0) + x.trade(0, 2), 125);

        says("Promise 22", "4: by GRANT 0, a share 1, what is left over 2 (of OPEN: all at a PRICE 3, else likewise); NONE: others, none such.");
        for (int what : new int[] {-1, 5, LOW, HIGH}) {
            due("trade(0, " + what + ")", x.trade(0, what), NONE);
        }
        dueTrade(x, 0, 249, 250, 125, 1, 0);
    }

    private static void accounts() {
        ProRataMarket x = new ProRataMarket();
        for (int i = 0; i < 3; i++) {
            x.order(0, SELL, 9999999, 214, REST);
            x.order(9, BUY, 9999999, 214, REST);
        }
        says("Promise 23", "POSITION; NoSuchElementException: no such TRADER.");
        due("position(0)", position(x, 0), -642);
        due("position(9)", position(x, 9), 642);
        due("position(1)", position(x, 1), 0);
        for (int trader : new int[] {-1, 10, LOW, HIGH}) {
            due("position(" + trader + ")", position(x, trader), THROWN);
        }

        says("Promise 24", "MONEY; NoSuchElementException: likewise.");
        due("money(0), beyond an int", money(x, 0), 6419999358L);
        due("money(9), beyond an int", money(x, 9), -6419999358L);
        due("money(1)", money(x, 1), 0);
        for (int trader : new int[] {-1, 10, LOW, HIGH}) {
            due("money(" + trader + ")", money(x, trader), THROWN);
        }

        says("Promise 24", "POSITION of a TRADER: lots bought less lots sold; MONEY: what was got for those sold less what was paid.");
        x.order(9, SELL, 5, 642, REST);
        x.order(3, BUY, 9, 642, REST);
        due("position(9)", position(x, 9), 0);
        due("money(9)", money(x, 9), 642L * 5 - 6419999358L);
        due("position(3)", position(x, 3), 642);
        due("money(3)", money(x, 3), -3210);
    }

    private static void count() {
        says("Promise 25", "NONE for another what.");
        ProRataMarket x = withSellsBy(5, 10, 20);
        for (int what : new int[] {-1, 11, 12, LOW, HIGH}) {
            due("count(" + what + ")", x.count(what), NONE);
        }

        says("Promise 25", "5: the NUMBER of the latest ORDER (0 without)");
        due("count(5) of a new object", new ProRataMarket().count(5), 0);
        due("count(5)", x.count(5), 2);
        x.off(2);
        due("that went", x.count(5), 2);
        x.order(10, SELL, 10, 20, REST);
        x.order(1, SELL, 9999999, 1000, REST);
        due("those that were refused do not count", x.count(5), 2);

        says("Promise 25", "7: TRADES that are kept, 8: lots TRADED in all (by OPEN: VOLUME)");
        ProRataMarket y = new ProRataMarket();
        for (int i = 0; i < 61; i++) {
            y.order(1, BUY, 9, 1000, REST);
            y.order(2, SELL, 9, 1000, REST);
        }
        due("count(7)", y.count(7), 60);
        due("count(8)", y.count(8), 61000);
        y.call();
        y.order(1, BUY, 9, 7, REST);
        y.order(2, SELL, 9, 5, REST);
        y.open();
        due("count(7)", y.count(7), 60);
        due("count(8)", y.count(8), 61005);

        says("Promise 25", "9: ORDERS taken off by MODES (those made less to 0, too; not those that came in), 10: lots by which ORDERS that rested were made less by them.");
        ProRataMarket z = withSells(4);
        z.order(1, BUY, 10, 4, COME);
        due("mode 1: count(9)", z.count(9), 0);
        z.order(1, BUY, 10, 3, LESS);
        due("made less to 1: count(9)", z.count(9), 0);
        due("made less to 1: count(10)", z.count(10), 3);
        z.order(1, BUY, 10, 1, LESS);
        due("made less to 0: count(9)", z.count(9), 1);
        due("made less to 0: count(10)", z.count(10), 4);
        z.order(1, SELL, 10, 9, REST);
        z.order(1, BUY, 10, 1, BOTH);
        due("mode 2: count(9)", z.count(9), 2);
        z.order(1, SELL, 10, 9, REST);
        z.order(1, BUY, 10, 1, REST);
        due("mode 0: count(9)", z.count(9), 3);
        due("those taken off were not made less", z.count(10), 4);
        z.off(z.count(5));
        due("off() is no MODE", z.count(9), 3);
        due("nothing rests", z.count(0), 0);
    }

    private static void readDocument() {
        try {
            document = Files.readString(Path.of("../shared/DOC.md"));
        } catch (IOException e) {
            System.out.println("no document here: that it says the sentences so is not looked at");
        }
    }

    private static void promises1To10() {
        life();
        face();
        newObject();
        feed();
        messageLength();
        messageTokens();
        messageLines();
        messageFaults();
        messageRefusals();
        orderArguments();
        room();
        meets();
        modes();
        shared();
        offAndCut();
        rules();
        call();
        openAtAPrice();
        openByRules();
        openFull();
    }

    private static void promises11To25() {
        of();
        level();
        queue();
        topComes();
        topLapses();
        ahead();
        share();
        takeFor();
        splits();
        wouldArguments();
        would();
        worth();
        clears();
        trade();
        accounts();
        count();
    }

    public static void main(String[] args) {
        readDocument();
        promises1To10();
        promises11To25();
        System.out.println(sentences + " sentences, " + looked + " answers looked at, " + wrong + " not as due");
        if (wrong != 0) {
            System.exit(1);
        }
    }
}
