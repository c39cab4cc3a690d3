import java.util.ArrayDeque;
import java.util.ArrayList;
import java.util.List;
import java.util.NoSuchElementException;
import java.util.Random;
import java.util.TreeSet;
import java.util.regex.Matcher;
import java.util.regex.Pattern;

/**
 * Long runs of calls, each answer beside that of a model that is written as slowly and plainly as the
 * document tells it: it tries every price and every TAKE. The seeds are fixed, so each run is the same.
 */
public final class ModelTests {
    private static final int NONE = -1;
    private static final long THROWN = Long.MIN_VALUE;
    private static final String FLAWS = "abestrolmnuyc0019 ;\n\t-\u0080";

    private static final class Lot {
        int number;
        int trader;
        int side;
        int price;
        int size;
        int first;
        int grant;

        Lot copy() {
            Lot lot = new Lot();
            lot.number = number;
            lot.trader = trader;
            lot.side = side;
            lot.price = price;
            lot.size = size;
            lot.first = first;
            lot.grant = grant;
            return lot;
        }
    }

    /** What one of a shared take comes to: by grant, share, left over. */
    private static final class Part {
        int granted;
        int shared;
        int over;

        int all() {
            return granted + shared + over;
        }
    }

    private static final class Model {
        List<Lot> book = new ArrayList<>();
        ArrayDeque<int[]> trades = new ArrayDeque<>();
        StringBuilder tape = new StringBuilder();
        int grant = 20;
        int least = 2;
        int phase;
        int last;
        int latest;
        int lots;
        int taken;
        int less;
        int takenLots;
        long worth;
        int rested;
        int[] position = new int[10];
        long[] money = new long[10];

        Model copy() {
            Model m = new Model();
            for (Lot lot : book) {
                m.book.add(lot.copy());
            }
            m.grant = grant;
            m.least = least;
            m.latest = latest;
            return m;
        }

        static int better(int side) {
            return side == 0 ? 1 : -1;
        }

        Lot find(int number) {
            return book.stream().filter(l -> l.number == number).findFirst().orElse(null);
        }

        List<Integer> prices(int side) {
            TreeSet<Integer> set = new TreeSet<>((p, q) -> better(side) * Integer.compare(q, p));
            book.stream().filter(l -> l.side == side).forEach(l -> set.add(l.price));
            return new ArrayList<>(set);
        }

        List<Lot> at(int side, int price) {
            List<Lot> list = new ArrayList<>();
            for (Lot lot : book) {
                if (lot.side == side && lot.price == price) {
                    list.add(lot);
                }
            }
            return list;
        }

        static int sum(List<Lot> list) {
            return list.stream().mapToInt(l -> l.size).sum();
        }

        static List<Part> share(List<Lot> list, int take, int least) {
            List<Part> parts = new ArrayList<>();
            int left = take;
            for (Lot lot : list) {
                Part part = new Part();
                if (lot.grant > 0) {
                    part.granted = Math.min(take, Math.min(lot.size, lot.grant));
                }
                left -= part.granted;
                parts.add(part);
            }
            long r = left;
            long s = 0;
            for (int i = 0; i < list.size(); i++) {
                s += list.get(i).size - parts.get(i).granted;
            }
            for (int i = 0; i < list.size() && s > 0; i++) {
                long share = r * (list.get(i).size - parts.get(i).granted) / s;
                parts.get(i).shared = share >= least ? (int) share : 0;
                left -= parts.get(i).shared;
            }
            for (int i = 0; i < list.size(); i++) {
                while (left > 0 && parts.get(i).all() < list.get(i).size) {
                    parts.get(i).over++;
                    left--;
                }
            }
            return parts;
        }

        void trade(Lot lot, int came, int price, int n, int kind) {
            if (n == 0) {
                return;
            }
            trades.addFirst(new int[] {lot.number, came, price, n, kind});
            if (trades.size() > 60) {
                trades.removeLast();
            }
            last = price;
            lot.size -= n;
            account(lot.trader, lot.side, price, n);
        }

        void account(int trader, int side, int price, int n) {
            position[trader] += side == 0 ? n : -n;
            money[trader] += (side == 0 ? -1L : 1L) * price * n;
        }

        void order(int trader, int side, int price, int size, int mode) {
            latest++;
            int left = phase == 1 ? size : meet(trader, side, price, size, mode);
            rested = book.size() < 60 ? left : 0;
            if (rested == 0) {
                return;
            }
            Lot lot = new Lot();
            lot.number = latest;
            lot.trader = trader;
            lot.side = side;
            lot.price = price;
            lot.size = left;
            lot.first = size;
            boolean lead = true;
            for (Lot other : book) {
                lead &= other.side != side || better(side) * (price - other.price) > 0;
            }
            if (lead && phase == 0 && left == size && grant > 0) {
                book.stream().filter(l -> l.side == side).forEach(l -> l.grant = 0);
                lot.grant = grant;
            }
            book.add(lot);
        }

        int meet(int trader, int side, int price, int size, int mode) {
            int left = size;
            while (left > 0) {
                List<Integer> prices = prices(1 - side);
                if (prices.isEmpty() || better(side) * (price - prices.get(0)) < 0) {
                    break;
                }
                int p = prices.get(0);
                boolean own = false;
                for (Lot lot : at(1 - side, p)) {
                    if (lot.trader != trader) {
                        continue;
                    }
                    own = true;
                    if (mode == 0 || mode == 2) {
                        taken++;
                        takenLots += lot.size;
                        book.remove(lot);
                    }
                    if (mode == 3) {
                        int n = Math.min(left, lot.size);
                        left -= n;
                        lot.size -= n;
                        less += n;
                        if (lot.size == 0) {
                            taken++;
                            book.remove(lot);
                        }
                    }
                }
                if (own && (mode == 1 || mode == 2)) {
                    left = 0;
                }
                List<Lot> there = at(1 - side, p);
                int take = Math.min(left, sum(there));
                if (take > 0) {
                    take(there, take, trader, side, p);
                    left -= take;
                }
            }
            return left;
        }

        void take(List<Lot> there, int take, int trader, int side, int p) {
            List<Part> parts = share(there, take, least);
            for (int kind = 0; kind < 3; kind++) {
                for (int i = 0; i < there.size(); i++) {
                    Part part = parts.get(i);
                    trade(there.get(i), latest, p, new int[] {part.granted, part.shared, part.over}[kind], kind);
                }
            }
            for (int i = 0; i < there.size(); i++) {
                there.get(i).grant -= parts.get(i).granted;
            }
            book.removeIf(l -> l.size == 0);
            account(trader, side, p, take);
            lots += take;
            worth += (long) take * p;
        }

        /** All prices at which something could trade; if they are too many, of each even stretch the nearest. */
        List<Integer> tried() {
            int low = book.stream().mapToInt(l -> l.price).min().orElse(1);
            int high = book.stream().mapToInt(l -> l.price).max().orElse(0);
            List<Integer> list = new ArrayList<>();
            if (high - low < 300) {
                for (int p = low; p <= high; p++) {
                    list.add(p);
                }
                return list;
            }
            TreeSet<Integer> starts = new TreeSet<>(List.of(1));
            book.forEach(l -> starts.add(l.side == 0 ? l.price + 1 : l.price));
            for (int start : starts) {
                Integer next = starts.higher(start);
                int end = next == null ? 9999999 : next - 1;
                if (start <= end) {
                    list.add(Math.max(start, Math.min(end, last)));
                }
            }
            return list;
        }

        /** Price, volume, surplus. */
        int[] clearing() {
            int[] best = {0, 0, 0};
            for (int p : tried()) {
                int at = p;
                int b = book.stream().filter(l -> l.side == 0 && l.price >= at).mapToInt(l -> l.size).sum();
                int a = book.stream().filter(l -> l.side == 1 && l.price <= at).mapToInt(l -> l.size).sum();
                int[] now = {p, Math.min(a, b), b - a};
                int order = Integer.compare(now[1], best[1]);
                order = order != 0 ? order : Integer.compare(Math.abs(best[2]), Math.abs(now[2]));
                order = order != 0 ? order : Integer.compare(Math.abs(best[0] - last), Math.abs(p - last));
                if (now[1] > 0 && order > 0) {
                    best = now;
                }
            }
            return best;
        }

        int open() {
            if (phase == 0) {
                return NONE;
            }
            phase = 0;
            int[] clear = clearing();
            for (int side = 0; side < 2 && clear[1] > 0; side++) {
                int left = clear[1];
                for (int price : prices(side)) {
                    List<Lot> there = at(side, price);
                    int all = sum(there);
                    if (all <= left) {
                        there.forEach(l -> trade(l, 0, clear[0], l.size, 3));
                    } else {
                        List<Part> parts = share(there, left, least);
                        for (int i = 0; i < there.size(); i++) {
                            trade(there.get(i), 0, clear[0], parts.get(i).shared, 1);
                        }
                        for (int i = 0; i < there.size(); i++) {
                            trade(there.get(i), 0, clear[0], parts.get(i).over, 2);
                        }
                    }
                    left -= Math.min(left, all);
                }
            }
            book.removeIf(l -> l.size == 0);
            lots += clear[1];
            return clear[1];
        }

        boolean off(int number) {
            return book.removeIf(l -> l.number == number);
        }

        boolean cut(int number, int size) {
            Lot lot = find(number);
            if (lot == null || size >= lot.size || size < 1) {
                return false;
            }
            lot.size = size;
            lot.grant = 0;
            return true;
        }

        boolean call() {
            if (phase == 1) {
                return false;
            }
            phase = 1;
            book.forEach(l -> l.grant = 0);
            return true;
        }

        int takeFor(int number, int what) {
            Lot lot = find(number);
            if (lot == null || what < 0 || what > 1) {
                return NONE;
            }
            List<Lot> there = at(lot.side, lot.price);
            int i = there.indexOf(lot);
            int take = 1;
            while (share(there, take, least).get(i).all() < (what == 0 ? 1 : lot.size)) {
                take++;
            }
            return take;
        }

        int splits(int number, int n, int take) {
            Lot lot = find(number);
            if (lot == null || n < 2 || n > 9 || lot.size < n) {
                return -2000000;
            }
            List<Lot> there = at(lot.side, lot.price);
            if (take < 1 || take > sum(there)) {
                return -2000000;
            }
            int i = there.indexOf(lot);
            int[] has = new int[2];
            for (int round = 0; round < 2; round++) {
                int parts = round == 0 ? 1 : n;
                List<Lot> list = new ArrayList<>(there);
                list.remove(i);
                for (int k = 0; k < parts; k++) {
                    Lot part = lot.copy();
                    part.grant = 0;
                    part.size = (lot.size + parts - 1 - k) / parts;
                    list.add(i + k, part);
                }
                List<Part> shares = share(list, take, least);
                for (int k = 0; k < parts; k++) {
                    has[round] += shares.get(i + k).all();
                }
            }
            return has[1] - has[0];
        }

        private static final Pattern TOKEN = Pattern.compile("[ \n]*(?:([a-z]+)|([0-9]+)|(;)|(.)|$)", Pattern.DOTALL);

        /** The place of a fault as it is answered, or how many lines were done. */
        int message(int n) {
            if (n < 0 || n > tape.length()) {
                return NONE;
            }
            String text = tape.substring(0, n);
            tape.setLength(0);
            List<List<String>> lines = new ArrayList<>();
            List<String> line = new ArrayList<>();
            Matcher m = TOKEN.matcher(text);
            int from = 0;
            while (true) {
                m.region(from, n);
                if (!m.lookingAt()) {
                    throw new IllegalStateException("the model's pattern takes every text");
                }
                from = m.end();
                String token = m.group().replaceAll("^[ \n]+", "");
                int place = m.end() - token.length();
                boolean end = token.isEmpty();
                boolean complete = complete(line);
                if ((end || token.equals(";")) && complete) {
                    lines.add(line);
                    line = new ArrayList<>();
                    if (end) {
                        break;
                    }
                    continue;
                }
                int kind = end ? 1 : kind(line, token);
                if (kind != 0) {
                    return -2 - (8 * place + kind);
                }
                line.add(token);
            }
            int done = 0;
            for (List<String> l : lines) {
                done += perform(l) ? 1 : 0;
            }
            return done;
        }

        private static String form(String verb) {
            switch (verb) {
                case "buy":
                case "sell":
                    return "tsp";
                case "off":
                    return "n";
                case "cut":
                    return "ns";
                case "grant":
                    return "g";
                case "least":
                    return "l";
                case "call":
                case "open":
                    return "";
                default:
                    return null;
            }
        }

        private static boolean complete(List<String> line) {
            return !line.isEmpty() && line.size() > form(line.get(0)).length();
        }

        private static int kind(List<String> line, String token) {
            if (line.isEmpty()) {
                return form(token) == null ? 1 : 0;
            }
            String form = form(line.get(0));
            if (line.size() > form.length()) {
                boolean mode = List.of("rest", "come", "both", "less").contains(token);
                return mode && form.equals("tsp") && line.size() == 4 ? 0 : 1;
            }
            if (!token.matches("[0-9]{1,7}")) {
                return 1;
            }
            int value = Integer.parseInt(token);
            switch (form.charAt(line.size() - 1)) {
                case 't':
                    return value > 9 ? 2 : 0;
                case 's':
                    return value < 1 || value > 1000 ? 2 : 0;
                case 'p':
                    return value < 1 || (long) value * Integer.parseInt(line.get(2)) > Integer.MAX_VALUE ? 2 : 0;
                case 'n':
                    return value < 1 ? 2 : 0;
                case 'g':
                    return value > 1000 ? 2 : 0;
                default:
                    return value < 1 || value > 50 ? 2 : 0;
            }
        }

        private boolean perform(List<String> line) {
            int[] n = new int[4];
            for (int i = 1; i < Math.min(4, line.size()); i++) {
                n[i] = line.get(i).matches("[0-9]+") ? Integer.parseInt(line.get(i)) : 0;
            }
            switch (line.get(0)) {
                case "buy":
                case "sell":
                    if (phase == 1 && book.size() == 60) {
                        return false;
                    }
                    int mode = line.size() < 5 ? 0 : List.of("rest", "come", "both", "less").indexOf(line.get(4));
                    order(n[1], line.get(0).equals("buy") ? 0 : 1, n[3], n[2], mode);
                    return true;
                case "off":
                    return off(n[1]);
                case "cut":
                    return cut(n[1], n[2]);
                case "grant":
                    grant = n[1];
                    return true;
                case "least":
                    least = n[1];
                    return true;
                case "call":
                    return call();
                default:
                    return open() != NONE;
            }
        }
    }

    private static int wrong = 0;
    private static long looked = 0;

    private final Random random;
    private final ProRataMarket real = new ProRataMarket();
    private final Model model = new Model();
    private final StringBuilder story = new StringBuilder();
    private final int span;
    private final int base;
    private final int maxSize;
    private final int traders;
    private boolean right = true;

    private ModelTests(long seed) {
        random = new Random(seed);
        span = new int[] {1, 2, 4, 10, 40}[random.nextInt(5)];
        base = new int[] {1, 1, 100, 9000, 9999999 - span}[random.nextInt(5)];
        int room = Integer.MAX_VALUE / (base + span);
        maxSize = Math.min(room, new int[] {3, 12, 60, 300, 1000}[random.nextInt(5)]);
        traders = new int[] {2, 3, 10}[random.nextInt(3)];
    }

    private void due(String call, long got, long want) {
        looked++;
        if (got != want && right) {
            right = false;
            wrong++;
            System.out.println(story + "\n  " + call + " answered " + got + ", the model " + want);
        }
    }

    private int aPrice() {
        return base + random.nextInt(span);
    }

    private int aSize() {
        return 1 + random.nextInt(maxSize);
    }

    private int aNumber() {
        if (!model.book.isEmpty() && random.nextInt(8) > 0) {
            return model.book.get(random.nextInt(model.book.size())).number;
        }
        return random.nextInt(model.latest + 2);
    }

    private void order() {
        int trader = random.nextInt(traders);
        int side = random.nextInt(2);
        int price = aPrice();
        int size = aSize();
        int mode = random.nextInt(4);
        story.append("order(" + trader + ", " + side + ", " + price + ", " + size + ", " + mode + ")\n");
        int want = NONE;
        if (model.phase == 1 && model.book.size() == 60) {
            want = -3;
        } else {
            model.order(trader, side, price, size, mode);
            want = model.latest;
        }
        due("order", real.order(trader, side, price, size, mode), want);
    }

    private void change() {
        int number = aNumber();
        int size = random.nextInt(maxSize + 1);
        switch (random.nextInt(7)) {
            case 0:
                story.append("off(" + number + ")\n");
                Lot gone = model.find(number);
                model.off(number);
                due("off", real.off(number), gone == null ? NONE : gone.size);
                break;
            case 1:
            case 2:
                story.append("cut(" + number + ", " + size + ")\n");
                Lot lot = model.find(number);
                int was = lot == null ? NONE : lot.size;
                due("cut", real.cut(number, size), model.cut(number, size) ? was : NONE);
                break;
            case 3:
                int grant = random.nextInt(4) == 0 ? 0 : random.nextInt(2 * maxSize);
                story.append("grant(" + grant + ")\n");
                due("grant", real.grant(grant), grant > 1000 ? NONE : model.grant);
                model.grant = grant > 1000 ? model.grant : grant;
                break;
            case 4:
                int least = random.nextInt(random.nextBoolean() ? 6 : 52);
                story.append("least(" + least + ")\n");
                due("least", real.least(least), least < 1 || least > 50 ? NONE : model.least);
                model.least = least < 1 || least > 50 ? model.least : least;
                break;
            case 5:
                story.append("call()\n");
                due("call", real.call() ? 1 : 0, model.call() ? 1 : 0);
                break;
            default:
                story.append("open()\n");
                due("open", real.open(), model.open());
                break;
        }
    }

    private String aLine() {
        String blank = new String[] {" ", "  ", "\n", " \n "}[random.nextInt(4)];
        switch (random.nextInt(12)) {
            case 0:
                return "off" + blank + aNumber();
            case 1:
                return "cut" + blank + aNumber() + blank + aSize();
            case 2:
                return "grant" + blank + random.nextInt(40);
            case 3:
                return "least " + (1 + random.nextInt(6)) + blank;
            case 4:
                return blank + "call";
            case 5:
            case 6:
                return "open";
            default:
                String mode = new String[] {"", "rest", "come", "both", "less"}[random.nextInt(5)];
                return (random.nextBoolean() ? "buy" : "sell") + blank + random.nextInt(traders) + blank + aSize()
                        + " " + aPrice() + blank + mode;
        }
    }

    private void message() {
        StringBuilder text = new StringBuilder();
        int lines = 1 + random.nextInt(8);
        for (int i = 0; i < lines; i++) {
            text.append(i == 0 ? "" : ";").append(aLine());
        }
        for (int flaws = random.nextInt(3); flaws > 0 && text.length() > 0; flaws--) {
            int at = random.nextInt(text.length());
            char other = FLAWS.charAt(random.nextInt(FLAWS.length()));
            switch (random.nextInt(3)) {
                case 0:
                    text.setCharAt(at, other);
                    break;
                case 1:
                    text.deleteCharAt(at);
                    break;
                default:
                    text.insert(at, other);
                    break;
            }
        }
        story.append("message \"" + text.toString().replace("\n", "\\n") + "\"\n");
        int length = text.length();
        while (text.length() % 20 != 0) {
            text.append((char) random.nextInt(256));
        }
        for (int i = 0; i < text.length(); i += 20) {
            int[] five = new int[5];
            for (int k = 0; k < 20; k++) {
                five[k / 4] |= text.charAt(i + k) << 24 - 8 * (k % 4);
            }
            boolean full = model.tape.length() + 20 > 500;
            if (!full) {
                model.tape.append(text, i, i + 20);
            }
            due("feed", real.feed(five[0], five[1], five[2], five[3], five[4]), full ? NONE : model.tape.length());
        }
        if (random.nextInt(10) > 0) {
            int n = random.nextInt(12) == 0 ? random.nextInt(text.length() + 9) : length;
            due("message(" + n + ")", real.message(n), model.message(n));
        }
    }

    private void lookAtBook() {
        for (int side = 0; side < 2; side++) {
            List<Integer> prices = model.prices(side);
            for (int what = -1; what < 4; what++) {
                due("level NONE", real.level(side, NONE, what), what < 0 || what > 2 ? NONE : prices.size());
            }
            for (int k = 0; k <= prices.size(); k++) {
                boolean none = k == prices.size();
                int price = none ? base : prices.get(k);
                List<Lot> there = model.at(side, price);
                due("level 0", real.level(side, k, 0), none ? NONE : price);
                due("level 1", real.level(side, k, 1), none ? NONE : Model.sum(there));
                due("level 2", real.level(side, k, 2), none ? NONE : there.size());
                due("level 3", real.level(side, k, 3), NONE);
                for (int i = 0; i <= there.size(); i++) {
                    due("queue", real.queue(side, price, i), i == there.size() ? NONE : there.get(i).number);
                }
            }
            int s = side;
            due("top", real.top(side), model.book.stream().filter(l -> l.side == s && l.grant > 0)
                    .mapToInt(l -> l.number).findFirst().orElse(NONE));
        }
        for (Lot lot : model.book) {
            int[] want = {lot.trader, lot.side, lot.price, lot.size, lot.first, lot.grant};
            for (int what = 0; what < 6; what++) {
                due("of(" + lot.number + ", " + what + ")", of(lot.number, what), want[what]);
            }
            int earlier = 0;
            int better = 0;
            for (Lot other : model.book) {
                if (other.side == lot.side) {
                    earlier += other.price == lot.price && other.number < lot.number ? other.size : 0;
                    better += Model.better(lot.side) * (other.price - lot.price) > 0 ? other.size : 0;
                }
            }
            due("ahead 0", real.ahead(lot.number, 0), earlier);
            due("ahead 1", real.ahead(lot.number, 1), better);
        }
        int number = random.nextInt(model.latest + 3) - 1;
        due("of(" + number + ", 0)", of(number, 0), model.find(number) == null ? THROWN : model.find(number).trader);
    }

    private long of(int number, int what) {
        try {
            return real.of(number, what);
        } catch (NoSuchElementException e) {
            return THROWN;
        }
    }

    private void lookAtAccounts() {
        int[] counts = {model.book.size(), model.phase, model.last, model.grant, model.least, model.latest,
            model.tape.length(), model.trades.size(), model.lots, model.taken, model.less};
        for (int what = 0; what < counts.length; what++) {
            due("count(" + what + ")", real.count(what), counts[what]);
        }
        int i = 0;
        for (int[] trade : model.trades) {
            for (int what = 0; what < 5; what++) {
                due("trade(" + i + ", " + what + ")", real.trade(i, what), trade[what]);
            }
            i++;
        }
        due("trade(" + i + ", 0)", real.trade(i, 0), NONE);
        for (int trader = 0; trader < 10; trader++) {
            due("position(" + trader + ")", real.position(trader), model.position[trader]);
            due("money(" + trader + ")", real.money(trader), model.money[trader]);
        }
    }

    private void lookAtShares() {
        int number = aNumber();
        Lot lot = model.find(number);
        List<Lot> there = lot == null ? List.of() : model.at(lot.side, lot.price);
        int all = Model.sum(there);
        int take = random.nextInt(all + 3);
        boolean none = take < 1 || take > all;
        Part part = none ? new Part() : Model.share(there, take, model.least).get(there.indexOf(lot));
        int[] want = {part.all(), part.granted, part.shared, part.over};
        for (int what = 0; what < 4; what++) {
            due("share(" + number + ", " + take + ", " + what + ")", real.share(number, take, what),
                    none ? NONE : want[what]);
        }
        int n = random.nextInt(12);
        due("splits(" + number + ", " + n + ", " + take + ")", real.splits(number, n, take),
                model.splits(number, n, take));
        if (all < 1500 || random.nextInt(40) == 0) {
            for (int what = 0; what < 2; what++) {
                due("takeFor(" + number + ", " + what + ")", real.takeFor(number, what), model.takeFor(number, what));
            }
        }
    }

    private void lookAtTrial() {
        int trader = random.nextInt(traders);
        int side = random.nextInt(2);
        int price = aPrice();
        int size = aSize();
        int mode = random.nextInt(4);
        Model trial = model.copy();
        trial.order(trader, side, price, size, mode);
        int[] want = {trial.lots, trial.rested, trial.last, trial.takenLots + trial.less};
        String call = "(" + trader + ", " + side + ", " + price + ", " + size + ", " + mode;
        for (int what = 0; what < 4; what++) {
            due("would" + call + ", " + what + ")", real.would(trader, side, price, size, mode, what), want[what]);
        }
        due("worth" + call + ")", real.worth(trader, side, price, size, mode), trial.worth);
        int[] clear = model.phase == 0 ? new int[3] : model.clearing();
        for (int what = -1; what < 4; what++) {
            due("clears(" + what + ")", real.clears(what), what < 0 || what > 2 ? NONE : clear[what]);
        }
    }

    private void run(int steps) {
        int orders = 3 + random.nextInt(10);
        for (int step = 0; step < steps && right; step++) {
            int choice = random.nextInt(orders + 2);
            if (choice == 0) {
                change();
            } else if (choice == 1) {
                message();
            } else {
                order();
            }
            if (random.nextInt(3) == 0) {
                lookAtShares();
                lookAtTrial();
            }
            if (random.nextInt(6) == 0 || step == steps - 1) {
                lookAtBook();
                lookAtAccounts();
            }
        }
    }

    public static void main(String[] args) {
        int runs = args.length > 0 ? Integer.parseInt(args[0]) : 1500;
        for (int seed = 0; seed < runs && wrong < 3; seed++) {
            new ModelTests(seed).run(40 + seed % 200);
        }
        System.out.println(looked + " answers looked at, " + wrong + " not as the model's");
        if (wrong != 0) {
            System.exit(1);
        }
    }
}
