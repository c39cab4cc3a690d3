import java.io.IOException;
import java.nio.file.Files;
import java.nio.file.Path;
import java.util.List;
import java.util.regex.Matcher;
import java.util.regex.Pattern;
import java.util.stream.Collectors;

/** Each call that README.md shows, against the answer that it tells behind it. */
public final class ReadmeTests {
    private static final Pattern SHOWN = Pattern.compile("^(.*\\)); +// ([^:]*)(:.*)?$");

    private static List<Matcher> shown = List.of();
    private static int looked = 0;
    private static int wrong = 0;

    private static void fail(String what) {
        wrong++;
        System.out.println(what);
    }

    /** The next call that the page shows is this one, with this answer. */
    private static void tells(String call, Object got) {
        if (looked >= shown.size()) {
            fail(call + " is not shown");
            return;
        }
        Matcher line = shown.get(looked);
        looked++;
        if (!line.group(1).equals(call) || !line.group(2).equals(got.toString())) {
            fail(call + " answered " + got + ", README.md shows: " + line.group());
        }
    }

    private static int say(ProRataMarket market, String text) {
        for (int from = 0; from < text.length(); from += 20) {
            int[] five = new int[5];
            for (int i = from; i < from + 20; i++) {
                int code = i < text.length() ? text.charAt(i) : ' ';
                five[(i - from) / 4] = five[(i - from) / 4] << 8 | code;
            }
            market.feed(five[0], five[1], five[2], five[3], five[4]);
        }
        return market.message(text.length());
    }

    private static void orders() {
        ProRataMarket market = new ProRataMarket();
        tells("market.order(1, 1, 100, 10, 0)", market.order(1, 1, 100, 10, 0));
        tells("market.order(2, 1, 100, 30, 0)", market.order(2, 1, 100, 30, 0));
        tells("market.order(3, 1, 100, 60, 0)", market.order(3, 1, 100, 60, 0));
        tells("market.top(1)", market.top(1));
        tells("market.share(2, 50, 0)", market.share(2, 50, 0));
        tells("market.worth(4, 0, 100, 50, 0)", market.worth(4, 0, 100, 50, 0));
        tells("market.order(4, 0, 100, 50, 0)", market.order(4, 0, 100, 50, 0));
        tells("market.trade(0, 3)", market.trade(0, 3));
        tells("market.trade(3, 3)", market.trade(3, 3));
        tells("market.of(3, 3)", market.of(3, 3));
        tells("market.position(4)", market.position(4));
        tells("market.money(4)", market.money(4));
        tells("market.off(3)", market.off(3));
        tells("market.off(3)", market.off(3));
    }

    private static void aCall() {
        ProRataMarket gathering = new ProRataMarket();
        tells("gathering.call()", gathering.call());
        tells("gathering.order(1, 0, 105, 10, 0)", gathering.order(1, 0, 105, 10, 0));
        tells("gathering.order(2, 0, 103, 20, 0)", gathering.order(2, 0, 103, 20, 0));
        tells("gathering.order(3, 1, 101, 15, 0)", gathering.order(3, 1, 101, 15, 0));
        tells("gathering.order(4, 1, 104, 30, 0)", gathering.order(4, 1, 104, 30, 0));
        tells("gathering.clears(0)", gathering.clears(0));
        tells("gathering.open()", gathering.open());
        tells("gathering.count(1)", gathering.count(1));
    }

    private static void messages() {
        ProRataMarket told = new ProRataMarket();
        tells("say(told, \"buy 1 10 50; call; sell 3 6 50 less; open\")",
                say(told, "buy 1 10 50; call; sell 3 6 50 less; open"));
        tells("say(told, \"off 7; grant 7\")", say(told, "off 7; grant 7"));
        tells("say(told, \"buy 1 0 50; call\")", say(told, "buy 1 0 50; call"));
    }

    /** What packs a text here is what the page shows for it. */
    private static void packs(String page, String own) {
        int from = page.indexOf("static int say(");
        int to = page.indexOf("\n}\n", Math.max(from, 0));
        if (from < 0 || to < 0 || !flat(own).contains(flat(page.substring(from, to + 2)))) {
            fail("README.md packs a text in another way");
        }
    }

    private static String flat(String code) {
        return code.lines().map(String::strip).collect(Collectors.joining("\n"));
    }

    public static void main(String[] args) throws IOException {
        String page = Files.readString(Path.of("README.md"));
        shown = page.lines().map(SHOWN::matcher).filter(Matcher::matches).toList();
        orders();
        aCall();
        messages();
        packs(page, Files.readString(Path.of("src/test/java/ReadmeTests.java")));
        if (looked < shown.size()) {
            fail("README.md shows " + shown.size() + " calls, here are " + looked);
        }
        System.out.println(looked + " calls of README.md looked at, " + wrong + " not as it tells");
        if (wrong != 0) {
            System.exit(1);
        }
    }
}
