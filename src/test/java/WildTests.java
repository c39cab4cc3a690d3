import java.util.NoSuchElementException;
import java.util.Random;

/**
 * Any arguments in any state: no call throws but those that may, and they only a NoSuchElementException; what
 * only looks changes nothing; the same calls on another object answer the same.
 */
public final class WildTests {
    private static final int[] EDGES = {Integer.MIN_VALUE, Integer.MIN_VALUE + 1, -2000000, -2, -1, 0, 1, 2, 3, 4, 5,
        8, 9, 10, 11, 19, 20, 50, 51, 59, 60, 61, 499, 500, 501, 999, 1000, 1001, 2147483, 2147484, 9999998, 9999999,
        10000000, Integer.MAX_VALUE - 1, Integer.MAX_VALUE};
    private static final int CALLS = 23;

    private static int wrong = 0;

    private static int edge(Random random) {
        if (random.nextInt(3) == 0) {
            return EDGES[random.nextInt(EDGES.length)];
        }
        return random.nextInt(random.nextBoolean() ? 4 : 70);
    }

    private static long answer(ProRataMarket x, int call, int[] n) {
        switch (call) {
            case 0: return x.feed(n[0], n[1], n[2], n[3], n[4]);
            case 1: return x.message(n[0]);
            case 2: return x.order(n[0], n[1], n[2], n[3], n[4]);
            case 3: return x.off(n[0]);
            case 4: return x.cut(n[0], n[1]);
            case 5: return x.grant(n[0]);
            case 6: return x.least(n[0]);
            case 7: return x.call() ? 1 : 0;
            case 8: return x.open();
            default: return look(x, call, n);
        }
    }

    private static long look(ProRataMarket x, int call, int[] n) {
        switch (call) {
            case 9: return x.level(n[0], n[1], n[2]);
            case 10: return x.queue(n[0], n[1], n[2]);
            case 11: return x.top(n[0]);
            case 12: return x.ahead(n[0], n[1]);
            case 13: return x.share(n[0], n[1], n[2]);
            case 14: return x.takeFor(n[0], n[1]);
            case 15: return x.splits(n[0], n[1], n[2]);
            case 16: return x.would(n[0], n[1], n[2], n[3], n[4], n[5]);
            case 17: return x.worth(n[0], n[1], n[2], n[3], n[4]);
            case 18: return x.clears(n[0]);
            case 19: return x.trade(n[0], n[1]);
            case 20: return x.count(n[0]);
            default: return thrower(x, call, n);
        }
    }

    private static long thrower(ProRataMarket x, int call, int[] n) {
        try {
            return call == 21 ? x.of(n[0], n[1]) : n[1] % 2 == 0 ? x.position(n[0]) : x.money(n[0]);
        } catch (NoSuchElementException e) {
            return Long.MIN_VALUE;
        }
    }

    private static void run(int seed) {
        Random random = new Random(seed);
        ProRataMarket all = new ProRataMarket();
        ProRataMarket changesAlone = new ProRataMarket();
        for (int i = 0; i < 512; i++) {
            int call = random.nextInt(3) == 0 ? 2 : random.nextInt(CALLS);
            int[] n = new int[6];
            for (int k = 0; k < n.length; k++) {
                n[k] = call == 0 && k == 1 ? random.nextInt() : edge(random);
            }
            String told = "seed " + seed + ", call " + i + " (" + call + ")";
            try {
                long got = answer(all, call, n);
                if (call < 9 && got != answer(changesAlone, call, n)) {
                    wrong++;
                    System.out.println(told + ": another answer where nobody looked in between");
                }
            } catch (RuntimeException e) {
                wrong++;
                System.out.println(told + " threw " + e);
            }
        }
    }

    public static void main(String[] args) {
        for (int seed = 0; seed < 1500 && wrong < 5; seed++) {
            run(seed);
        }
        System.out.println(wrong == 0 ? "no wild call threw" : wrong + " wild calls went wrong");
        if (wrong != 0) {
            System.exit(1);
        }
    }
}
