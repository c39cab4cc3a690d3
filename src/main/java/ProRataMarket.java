import java.util.NoSuchElementException;

/**
 * A pro-rata market: an order that comes in is shared at each price over the sizes that rest there,
 * after a grant for who set the best price alone; small shares are dropped, what is left over goes by
 * time, and nobody trades with oneself. The words in capitals are those of the document.
 */
public final class ProRataMarket {
    public static final int NONE = -1;

    private static final int TOO_DEAR = -2;
    private static final int NO_ROOM = -3;
    private static final int NO_SPLIT = -2000000;

    private static final int BUY = 0;
    private static final int SELL = 1;
    private static final int SIDES = 2;
    private static final int TRADERS = 10;
    private static final int ROOM = 60;
    private static final int KEPT_TRADES = 60;
    private static final int MAX_PRICE = 9999999;
    private static final int MAX_SIZE = 1000;
    private static final int MAX_WORTH = 2147483647;
    private static final int MAX_NUMBER = 9999999;
    private static final int MAX_GRANT = 1000;
    private static final int MAX_LEAST = 50;
    private static final int MAX_PARTS = 9;

    private static final int MODE_REST = 0;
    private static final int MODE_COME = 1;
    private static final int MODE_BOTH = 2;
    private static final int MODE_LESS = 3;

    private static final int BY_GRANT = 0;
    private static final int BY_SHARE = 1;
    private static final int BY_TIME = 2;
    private static final int BY_WHOLE_PRICE = 3;

    private static final int PART_ALL = 0;
    private static final int PART_GRANT = 1;
    private static final int PART_SHARE = 2;
    private static final int PART_OVER = 3;

    private static final int TAPE_BYTES = 500;
    private static final int MAX_DIGITS = 7;
    private static final int FAULT_FORM = 1;
    private static final int FAULT_BOUNDS = 2;

    private static final int VERB_BUY = 0;
    private static final int VERB_SELL = 1;
    private static final int VERB_OFF = 2;
    private static final int VERB_CUT = 3;
    private static final int VERB_GRANT = 4;
    private static final int VERB_LEAST = 5;
    private static final int VERB_CALL = 6;
    private static final int VERB_OPEN = 7;
    private static final int VERBS = 8;
    private static final int MODES = 4;

    private final Floor floor;
    // What would be is tried on a copy, so that nothing of the market itself has to be undone.
    private final Floor trial;
    private final Tape tape;

    public ProRataMarket() {
        floor = new Floor();
        trial = new Floor();
        tape = new Tape();
    }

    public int feed(int a, int b, int c, int d, int e) {
        if (tape.held + 20 > TAPE_BYTES) {
            return NONE;
        }
        tape.put(a);
        tape.put(b);
        tape.put(c);
        tape.put(d);
        tape.put(e);
        return tape.held;
    }

    public int message(int n) {
        if (n < 0 || n > tape.held) {
            return NONE;
        }
        tape.held = 0;
        tape.rewind(n);
        for (int line = 0; line < TAPE_BYTES && tape.lineFollows; line++) {
            if (!tape.readLine()) {
                return -2 - tape.fault;
            }
        }
        // Nothing may be done of a MESSAGE with a FAULT, so it is read once more to do it.
        tape.rewind(n);
        int done = 0;
        for (int line = 0; line < TAPE_BYTES && tape.lineFollows; line++) {
            if (tape.readLine() && doLine(tape.verb, tape.number)) {
                done++;
            }
        }
        return done;
    }

    private boolean doLine(int verb, int[] number) {
        switch (verb) {
            case VERB_BUY:
                return floor.comeIn(number[0], BUY, number[2], number[1], tape.mode) > 0;
            case VERB_SELL:
                return floor.comeIn(number[0], SELL, number[2], number[1], tape.mode) > 0;
            case VERB_OFF:
                return off(number[0]) != NONE;
            case VERB_CUT:
                return cut(number[0], number[1]) != NONE;
            case VERB_GRANT:
                return grant(number[0]) != NONE;
            case VERB_LEAST:
                return least(number[0]) != NONE;
            case VERB_CALL:
                return call();
            default:
                return open() != NONE;
        }
    }

    public int order(int trader, int side, int price, int size, int mode) {
        if (!isForm(trader, side, price, size, mode)) {
            return NONE;
        }
        if (!isWorthInt(price, size)) {
            return TOO_DEAR;
        }
        return floor.comeIn(trader, side, price, size, mode);
    }

    private static boolean isForm(int trader, int side, int price, int size, int mode) {
        return isTrader(trader) && isSide(side) && price >= 1 && price <= MAX_PRICE
                && size >= 1 && size <= MAX_SIZE && mode >= 0 && mode < MODES;
    }

    private static boolean isTrader(int trader) {
        return trader >= 0 && trader < TRADERS;
    }

    private static boolean isSide(int side) {
        return side == BUY || side == SELL;
    }

    private static boolean isWorthInt(int price, int size) {
        return (long) price * size <= MAX_WORTH;
    }

    public int off(int number) {
        Order order = floor.book.find(number);
        if (order == null) {
            return NONE;
        }
        int size = order.size;
        order.size = 0;
        floor.book.sweep();
        return size;
    }

    public int cut(int number, int size) {
        Order order = floor.book.find(number);
        if (order == null || size < 1 || size >= order.size) {
            return NONE;
        }
        int was = order.size;
        order.size = size;
        floor.book.lapse(order);
        return was;
    }

    public int grant(int grant) {
        if (grant < 0 || grant > MAX_GRANT) {
            return NONE;
        }
        int was = floor.grant;
        floor.grant = grant;
        return was;
    }

    public int least(int least) {
        if (least < 1 || least > MAX_LEAST) {
            return NONE;
        }
        int was = floor.least;
        floor.least = least;
        return was;
    }

    public boolean call() {
        if (floor.calling) {
            return false;
        }
        floor.calling = true;
        floor.book.lapseAll();
        return true;
    }

    public int open() {
        return floor.calling ? floor.changeOver() : NONE;
    }

    public int of(int number, int what) throws NoSuchElementException {
        Order order = floor.book.find(number);
        if (order == null) {
            throw new NoSuchElementException("no such order rests");
        }
        switch (what) {
            case 0:
                return order.trader;
            case 1:
                return order.side;
            case 2:
                return order.price;
            case 3:
                return order.size;
            case 4:
                return order.first;
            case 5:
                return floor.book.grantOf(order);
            default:
                throw new NoSuchElementException("what is 0 to 5");
        }
    }

    public int level(int side, int k, int what) {
        if (!isSide(side) || what < 0 || what > 2) {
            return NONE;
        }
        if (k == NONE) {
            return floor.book.prices(side);
        }
        int price = floor.book.priceAt(side, k);
        if (price == 0) {
            return NONE;
        }
        switch (what) {
            case 0:
                return price;
            case 1:
                return floor.book.sizesAt(side, price);
            default:
                return floor.book.ordersAt(side, price);
        }
    }

    public int queue(int side, int price, int k) {
        if (!isSide(side) || k < 0) {
            return NONE;
        }
        return floor.book.numberAt(side, price, k);
    }

    public int top(int side) {
        if (!isSide(side) || floor.book.topNumber[side] == 0) {
            return NONE;
        }
        return floor.book.topNumber[side];
    }

    public int ahead(int number, int what) {
        Order order = floor.book.find(number);
        if (order == null || what < 0 || what > 1) {
            return NONE;
        }
        return what == 0 ? floor.book.earlierSizes(order) : floor.book.betterSizes(order);
    }

    public int share(int number, int take, int what) {
        Order order = floor.book.find(number);
        if (order == null || what < PART_ALL || what > PART_OVER) {
            return NONE;
        }
        Sharing sharing = floor.sharing;
        sharing.load(floor.book, order.side, order.price);
        if (take < 1 || take > sharing.all) {
            return NONE;
        }
        sharing.deal(take, floor.least);
        return sharing.partOf(order, what);
    }

    public int takeFor(int number, int what) {
        Order order = floor.book.find(number);
        if (order == null || what < 0 || what > 1) {
            return NONE;
        }
        floor.sharing.load(floor.book, order.side, order.price);
        return floor.sharing.leastTake(order, what == 0 ? 1 : order.size, floor.least);
    }

    public int splits(int number, int n, int take) {
        Order order = floor.book.find(number);
        if (order == null || n < 2 || n > MAX_PARTS || order.size < n) {
            return NO_SPLIT;
        }
        Sharing sharing = floor.sharing;
        sharing.loadInParts(floor.book, order, 1);
        if (take < 1 || take > sharing.all) {
            return NO_SPLIT;
        }
        sharing.deal(take, floor.least);
        int asOne = sharing.partOf(order, PART_ALL);
        sharing.loadInParts(floor.book, order, n);
        sharing.deal(take, floor.least);
        return sharing.partOf(order, PART_ALL) - asOne;
    }

    public int would(int trader, int side, int price, int size, int mode, int what) {
        if (!isForm(trader, side, price, size, mode) || !isWorthInt(price, size)) {
            return NONE;
        }
        trial.prepareTrial(floor);
        trial.comeIn(trader, side, price, size, mode);
        switch (what) {
            case 0:
                return trial.ledger.lots;
            case 1:
                return trial.coming.size;
            case 2:
                return trial.ledger.last;
            case 3:
                return trial.lotsTakenOff + trial.lotsMadeLess;
            default:
                return NONE;
        }
    }

    public long worth(int trader, int side, int price, int size, int mode) {
        if (!isForm(trader, side, price, size, mode) || !isWorthInt(price, size)) {
            return NONE;
        }
        trial.prepareTrial(floor);
        trial.comeIn(trader, side, price, size, mode);
        // The trial's ledger was empty, and nobody trades with oneself: all of this is by the one order.
        long money = trial.ledger.money[trader];
        return side == BUY ? -money : money;
    }

    public int clears(int what) {
        if (what < 0 || what > 2) {
            return NONE;
        }
        if (!floor.calling) {
            return 0;
        }
        Clearing clearing = floor.clearing;
        clearing.seek(floor.book, floor.ledger.last);
        switch (what) {
            case 0:
                return clearing.price;
            case 1:
                return clearing.volume;
            default:
                return clearing.surplus;
        }
    }

    public int trade(int i, int what) {
        if (i < 0 || i >= floor.ledger.kept || what < 0 || what > 4) {
            return NONE;
        }
        return floor.ledger.told(i, what);
    }

    public int position(int trader) throws NoSuchElementException {
        if (!isTrader(trader)) {
            throw new NoSuchElementException("traders are 0 to 9");
        }
        return floor.ledger.position[trader];
    }

    public long money(int trader) throws NoSuchElementException {
        if (!isTrader(trader)) {
            throw new NoSuchElementException("traders are 0 to 9");
        }
        return floor.ledger.money[trader];
    }

    public int count(int what) {
        switch (what) {
            case 0:
                return floor.book.resting;
            case 1:
                return floor.calling ? 1 : 0;
            case 2:
                return floor.ledger.last;
            case 3:
                return floor.grant;
            case 4:
                return floor.least;
            case 5:
                return floor.latest;
            case 6:
                return tape.held;
            case 7:
                return floor.ledger.kept;
            case 8:
                return floor.ledger.lots;
            case 9:
                return floor.ordersTakenOff;
            case 10:
                return floor.lotsMadeLess;
            default:
                return NONE;
        }
    }

    private static boolean isBetter(int side, int price, int than) {
        return side == BUY ? price > than : price < than;
    }

    /** An ORDER; first is the SIZE with which it came in. */
    private static final class Order {
        int number;
        int trader;
        int side;
        int price;
        int size;
        int first;

        void become(int number, int trader, int side, int price, int size) {
            this.number = number;
            this.trader = trader;
            this.side = side;
            this.price = price;
            this.size = size;
            this.first = size;
        }

        void copyFrom(Order other) {
            become(other.number, other.trader, other.side, other.price, other.size);
            first = other.first;
        }
    }

    /** The ORDERS that rest, by TIME, and the TOP of each SIDE. */
    private static final class Book {
        // The rows behind the resting ones are made already, to be used again.
        final Order[] rows = new Order[ROOM];
        int resting;
        final int[] topNumber = new int[SIDES];
        final int[] topGrant = new int[SIDES];

        Book() {
            for (int i = 0; i < ROOM; i++) {
                rows[i] = new Order();
            }
        }

        void copyFrom(Book other) {
            resting = other.resting;
            for (int i = 0; i < resting; i++) {
                rows[i].copyFrom(other.rows[i]);
            }
            for (int side = 0; side < SIDES; side++) {
                topNumber[side] = other.topNumber[side];
                topGrant[side] = other.topGrant[side];
            }
        }

        Order find(int number) {
            for (int i = 0; i < resting; i++) {
                if (rows[i].number == number) {
                    return rows[i];
                }
            }
            return null;
        }

        boolean isFull() {
            return resting >= ROOM;
        }

        void add(Order order) {
            if (!isFull()) {
                rows[resting].copyFrom(order);
                resting++;
            }
        }

        /** Those with nothing left go; the others keep their TIME. */
        void sweep() {
            int stay = 0;
            for (int i = 0; i < resting; i++) {
                Order row = rows[i];
                if (row.size > 0) {
                    rows[i] = rows[stay];
                    rows[stay] = row;
                    stay++;
                } else {
                    lapse(row);
                }
            }
            resting = stay;
        }

        void makeTop(Order order, int grant) {
            topNumber[order.side] = order.number;
            topGrant[order.side] = grant;
        }

        void lapse(Order order) {
            if (topNumber[order.side] == order.number) {
                topNumber[order.side] = 0;
                topGrant[order.side] = 0;
            }
        }

        void lapseAll() {
            for (int side = 0; side < SIDES; side++) {
                topNumber[side] = 0;
                topGrant[side] = 0;
            }
        }

        int grantOf(Order order) {
            return topNumber[order.side] == order.number ? topGrant[order.side] : 0;
        }

        void useGrant(Order order, int lots) {
            topGrant[order.side] -= lots;
            if (topGrant[order.side] <= 0) {
                topNumber[order.side] = 0;
            }
        }

        /** The best PRICE of a SIDE, 0 without. */
        int best(int side) {
            return nextPrice(side, side == BUY ? MAX_PRICE + 1 : 0);
        }

        /** The best PRICE of a SIDE of those behind one, 0 without. */
        int nextPrice(int side, int price) {
            int next = 0;
            for (int i = 0; i < resting; i++) {
                Order row = rows[i];
                if (row.side == side && isBetter(side, price, row.price)
                        && (next == 0 || isBetter(side, row.price, next))) {
                    next = row.price;
                }
            }
            return next;
        }

        /** The k-th PRICE of a SIDE, 0 without. */
        int priceAt(int side, int k) {
            if (k < 0 || k >= ROOM) {
                return 0;
            }
            int price = best(side);
            for (int i = 0; i < k && price > 0; i++) {
                price = nextPrice(side, price);
            }
            return price;
        }

        int prices(int side) {
            int price = best(side);
            int prices = 0;
            for (int i = 0; i < ROOM && price > 0; i++) {
                prices++;
                price = nextPrice(side, price);
            }
            return prices;
        }

        boolean isAt(int i, int side, int price) {
            return rows[i].side == side && rows[i].price == price;
        }

        int sizesAt(int side, int price) {
            int sizes = 0;
            for (int i = 0; i < resting; i++) {
                sizes += isAt(i, side, price) ? rows[i].size : 0;
            }
            return sizes;
        }

        int ordersAt(int side, int price) {
            int orders = 0;
            for (int i = 0; i < resting; i++) {
                orders += isAt(i, side, price) ? 1 : 0;
            }
            return orders;
        }

        int numberAt(int side, int price, int k) {
            int passed = 0;
            for (int i = 0; i < resting; i++) {
                if (isAt(i, side, price)) {
                    if (passed == k) {
                        return rows[i].number;
                    }
                    passed++;
                }
            }
            return NONE;
        }

        int earlierSizes(Order order) {
            int sizes = 0;
            for (int i = 0; i < resting && rows[i] != order; i++) {
                sizes += isAt(i, order.side, order.price) ? rows[i].size : 0;
            }
            return sizes;
        }

        int betterSizes(Order order) {
            int sizes = 0;
            for (int i = 0; i < resting; i++) {
                Order row = rows[i];
                if (row.side == order.side && isBetter(row.side, row.price, order.price)) {
                    sizes += row.size;
                }
            }
            return sizes;
        }
    }

    /** How a TAKE is SHARED among the ORDERS of a PRICE, by TIME. */
    private static final class Sharing {
        // An ORDER of the full book may stand here in parts.
        static final int ROWS = ROOM + MAX_PARTS - 1;

        final Order[] owner = new Order[ROWS];
        final int[] size = new int[ROWS];
        final int[] grant = new int[ROWS];
        final int[] granted = new int[ROWS];
        final int[] shared = new int[ROWS];
        final int[] over = new int[ROWS];
        int rows;
        int all;

        void load(Book book, int side, int price) {
            rows = 0;
            all = 0;
            for (int i = 0; i < book.resting; i++) {
                if (book.isAt(i, side, price)) {
                    Order order = book.rows[i];
                    put(order, order.size, book.grantOf(order));
                }
            }
        }

        /** As load, but one ORDER stands in so many parts and is no TOP. */
        void loadInParts(Book book, Order divided, int parts) {
            rows = 0;
            all = 0;
            for (int i = 0; i < book.resting; i++) {
                Order order = book.rows[i];
                if (order == divided) {
                    putParts(order, parts);
                } else if (book.isAt(i, divided.side, divided.price)) {
                    put(order, order.size, book.grantOf(order));
                }
            }
        }

        private void putParts(Order order, int parts) {
            if (parts < 1) {
                return;
            }
            int each = order.size / parts;
            int oneMore = order.size % parts;
            for (int part = 0; part < parts; part++) {
                put(order, part < oneMore ? each + 1 : each, 0);
            }
        }

        private void put(Order order, int lots, int grantLeft) {
            if (rows >= ROWS) {
                return;
            }
            owner[rows] = order;
            size[rows] = lots;
            grant[rows] = grantLeft;
            rows++;
            all += lots;
        }

        /** (a), (b) and (c) of SHARED, each in its own row of numbers. */
        void deal(int take, int least) {
            int left = take;
            int sizes = 0;
            for (int i = 0; i < rows; i++) {
                granted[i] = Math.min(left, Math.min(size[i], grant[i]));
                left -= granted[i];
                sizes += size[i] - granted[i];
            }
            int toShare = left;
            for (int i = 0; i < rows; i++) {
                shared[i] = portion(toShare, size[i] - granted[i], sizes, least);
                left -= shared[i];
            }
            for (int i = 0; i < rows; i++) {
                over[i] = Math.min(left, size[i] - granted[i] - shared[i]);
                left -= over[i];
            }
        }

        private static int portion(int toShare, int lots, int sizes, int least) {
            if (sizes <= 0) {
                return 0;
            }
            int portion = toShare * lots / sizes;
            return portion < least ? 0 : portion;
        }

        private int partAt(int row, int what) {
            switch (what) {
                case PART_GRANT:
                    return granted[row];
                case PART_SHARE:
                    return shared[row];
                case PART_OVER:
                    return over[row];
                default:
                    return granted[row] + shared[row] + over[row];
            }
        }

        int partOf(Order order, int what) {
            int part = 0;
            for (int i = 0; i < rows; i++) {
                part += owner[i] == order ? partAt(i, what) : 0;
            }
            return part;
        }

        int leastTake(Order order, int wanted, int least) {
            int row = 0;
            int grants = 0;
            for (int i = 0; i < rows; i++) {
                row = owner[i] == order ? i : row;
                grants += Math.min(size[i], grant[i]);
            }
            if (Math.min(size[row], grant[row]) >= wanted) {
                return wanted;
            }
            int step = 1;
            for (int take = grants + 1; take < all; take += step) {
                deal(take, least);
                if (partAt(row, PART_ALL) >= wanted) {
                    return take;
                }
                step = Math.max(1, idleStep(row, take - grants, wanted, least));
            }
            return all;
        }

        /**
         * How far a TAKE by which a row has not what is wanted may rise at once. What a row has is not
         * steady in the TAKE, since those behind it come to their LEAST by leaps; but they only ever
         * have more shares by a greater TAKE, so what comes to the row and those ahead of it rises by
         * no more than one for each lot. Only the row's own share may leap as well.
         */
        private int idleStep(int row, int toShare, int wanted, int least) {
            int sizes = 0;
            int due = Math.min(wanted, size[row] - granted[row]);
            int behind = 0;
            for (int i = 0; i < rows; i++) {
                int lots = size[i] - granted[i];
                sizes += lots;
                due += i < row ? lots : 0;
                behind += i > row ? shared[i] : 0;
            }
            int lack = due - (toShare - behind);
            if (wanted > 1 || size[row] <= 0) {
                return lack;
            }
            int ownShare = (least * sizes + size[row] - 1) / size[row];
            return Math.min(lack, ownShare - toShare);
        }
    }

    /** The TRADES that are kept, and what all TRADES came to. */
    private static final class Ledger {
        final int[][] trades = new int[KEPT_TRADES][5];
        int kept;
        int next;
        int last;
        int lots;
        final int[] position = new int[TRADERS];
        final long[] money = new long[TRADERS];

        void clear() {
            kept = 0;
            next = 0;
            last = 0;
            lots = 0;
            for (int trader = 0; trader < TRADERS; trader++) {
                position[trader] = 0;
                money[trader] = 0;
            }
        }

        void keep(int rested, int came, int price, int lots, int kind) {
            int[] row = trades[next];
            row[0] = rested;
            row[1] = came;
            row[2] = price;
            row[3] = lots;
            row[4] = kind;
            next = (next + 1) % KEPT_TRADES;
            kept = Math.min(kept + 1, KEPT_TRADES);
            last = price;
        }

        void enter(int trader, int side, int price, int lots) {
            int bought = side == BUY ? lots : -lots;
            position[trader] += bought;
            money[trader] -= (long) price * bought;
        }

        int told(int i, int what) {
            return trades[Math.floorMod(next - 1 - i, KEPT_TRADES)][what];
        }
    }

    /** The one price at which an OPEN would have all TRADE; volume 0: there is none. */
    private static final class Clearing {
        int price;
        int volume;
        int surplus;

        /**
         * Between two neighbouring PRICES of ORDERS nothing changes, and beyond them nothing would TRADE:
         * of all prices only those at and beside an ORDER's and LAST can be the one.
         */
        void seek(Book book, int last) {
            price = 0;
            volume = 0;
            surplus = 0;
            consider(book, last, last);
            for (int i = 0; i < book.resting; i++) {
                int at = book.rows[i].price;
                consider(book, at - 1, last);
                consider(book, at, last);
                consider(book, at + 1, last);
            }
        }

        private void consider(Book book, int at, int last) {
            if (at < 1 || at > MAX_PRICE) {
                return;
            }
            int buys = 0;
            int sells = 0;
            for (int i = 0; i < book.resting; i++) {
                Order row = book.rows[i];
                if (row.side == BUY) {
                    buys += row.price >= at ? row.size : 0;
                } else {
                    sells += row.price <= at ? row.size : 0;
                }
            }
            int lots = Math.min(buys, sells);
            if (lots > 0 && isPreferred(at, lots, buys - sells, last)) {
                price = at;
                volume = lots;
                surplus = buys - sells;
            }
        }

        private boolean isPreferred(int at, int lots, int more, int last) {
            if (lots != volume) {
                return lots > volume;
            }
            if (Math.abs(more) != Math.abs(surplus)) {
                return Math.abs(more) < Math.abs(surplus);
            }
            if (Math.abs(at - last) != Math.abs(price - last)) {
                return Math.abs(at - last) < Math.abs(price - last);
            }
            return at < price;
        }
    }

    /** The market but for THE TAPE: its BOOK, RULES and PHASE, and what happens there. */
    private static final class Floor {
        final Book book = new Book();
        final Ledger ledger = new Ledger();
        final Sharing sharing = new Sharing();
        final Clearing clearing = new Clearing();
        // The ORDER that comes in; its size is what is left of it, in the end what rests of it.
        final Order coming = new Order();
        int grant = 20;
        int least = 2;
        boolean calling;
        int latest;
        int ordersTakenOff;
        int lotsTakenOff;
        int lotsMadeLess;

        void prepareTrial(Floor other) {
            book.copyFrom(other.book);
            ledger.clear();
            grant = other.grant;
            least = other.least;
            calling = false;
            latest = other.latest;
            ordersTakenOff = 0;
            lotsTakenOff = 0;
            lotsMadeLess = 0;
        }

        int comeIn(int trader, int side, int price, int size, int mode) {
            if (calling && book.isFull()) {
                return NO_ROOM;
            }
            latest++;
            coming.become(latest, trader, side, price, size);
            if (!calling) {
                meet(mode);
            }
            if (book.isFull()) {
                coming.size = 0;
            }
            if (coming.size > 0) {
                restComing();
            }
            return latest;
        }

        private void restComing() {
            int best = book.best(coming.side);
            boolean leads = best == 0 || isBetter(coming.side, coming.price, best);
            book.add(coming);
            if (!calling && leads && coming.size == coming.first && grant > 0) {
                book.makeTop(coming, grant);
            }
        }

        private void meet(int mode) {
            int other = coming.side == BUY ? SELL : BUY;
            // Each turn ends a PRICE or the ORDER that comes in, and there are no more PRICES than room.
            for (int turn = 0; turn < ROOM && coming.size > 0; turn++) {
                int price = book.best(other);
                if (price == 0 || isBetter(other, coming.price, price)) {
                    return;
                }
                preventSelf(other, price, mode);
                if (coming.size > 0) {
                    takeAt(other, price);
                }
            }
        }

        private void preventSelf(int side, int price, int mode) {
            boolean met = false;
            for (int i = 0; i < book.resting; i++) {
                Order row = book.rows[i];
                if (book.isAt(i, side, price) && row.trader == coming.trader) {
                    met = true;
                    loseOwn(row, mode);
                }
            }
            if (met && (mode == MODE_COME || mode == MODE_BOTH)) {
                coming.size = 0;
            }
            book.sweep();
        }

        private void loseOwn(Order own, int mode) {
            if (mode == MODE_REST || mode == MODE_BOTH) {
                lotsTakenOff += own.size;
                own.size = 0;
                ordersTakenOff++;
            } else if (mode == MODE_LESS) {
                int lots = Math.min(own.size, coming.size);
                own.size -= lots;
                coming.size -= lots;
                lotsMadeLess += lots;
                ordersTakenOff += own.size == 0 ? 1 : 0;
            }
        }

        private void takeAt(int side, int price) {
            sharing.load(book, side, price);
            int take = Math.min(coming.size, sharing.all);
            if (take <= 0) {
                return;
            }
            sharing.deal(take, least);
            tradeRows(sharing.granted, coming.number, price, BY_GRANT);
            tradeRows(sharing.shared, coming.number, price, BY_SHARE);
            tradeRows(sharing.over, coming.number, price, BY_TIME);
            ledger.enter(coming.trader, coming.side, price, take);
            ledger.lots += take;
            coming.size -= take;
            book.sweep();
        }

        private void tradeRows(int[] lots, int came, int price, int kind) {
            for (int i = 0; i < sharing.rows && i < lots.length; i++) {
                if (lots[i] > 0) {
                    Order order = sharing.owner[i];
                    order.size -= lots[i];
                    if (kind == BY_GRANT) {
                        book.useGrant(order, lots[i]);
                    }
                    ledger.keep(order.number, came, price, lots[i], kind);
                    ledger.enter(order.trader, order.side, price, lots[i]);
                }
            }
        }

        /** OPEN; the VOLUME. */
        int changeOver() {
            calling = false;
            clearing.seek(book, ledger.last);
            if (clearing.volume > 0) {
                tradeSide(BUY);
                tradeSide(SELL);
                ledger.lots += clearing.volume;
                book.sweep();
            }
            return clearing.volume;
        }

        private void tradeSide(int side) {
            int left = clearing.volume;
            int price = book.best(side);
            for (int turn = 0; turn < ROOM && left > 0 && price > 0; turn++) {
                sharing.load(book, side, price);
                if (sharing.all <= left) {
                    tradeRows(sharing.size, 0, clearing.price, BY_WHOLE_PRICE);
                } else {
                    sharing.deal(left, least);
                    tradeRows(sharing.shared, 0, clearing.price, BY_SHARE);
                    tradeRows(sharing.over, 0, clearing.price, BY_TIME);
                }
                left -= Math.min(left, sharing.all);
                price = book.nextPrice(side, price);
            }
        }
    }

    /** THE TAPE, and the LINES of a MESSAGE as they are read from it. */
    private static final class Tape {
        static final int END = 0;
        static final int WORD = 1;
        static final int NUMBER = 2;
        static final int SEMICOLON = 3;
        static final int WRONG = 4;

        final int[] bytes = new int[TAPE_BYTES];
        int held;

        private int end;
        private int place;
        private int token;
        private int start;
        private int value;

        boolean lineFollows;
        int verb;
        final int[] number = new int[3];
        int mode;
        int fault;

        void put(int four) {
            for (int shift = 24; shift >= 0 && held < TAPE_BYTES; shift -= 8) {
                bytes[held] = (four >> shift) & 255;
                held++;
            }
        }

        void rewind(int n) {
            end = Math.min(n, TAPE_BYTES);
            place = 0;
            lineFollows = true;
        }

        /** A LINE and what ends it; false: a FAULT. */
        boolean readLine() {
            readToken();
            verb = wordIn(VERBS, true);
            if (verb == NONE) {
                return failBy(FAULT_FORM);
            }
            if (!readNumbers()) {
                return false;
            }
            readToken();
            mode = MODE_REST;
            if ((verb == VERB_BUY || verb == VERB_SELL) && token == WORD) {
                mode = wordIn(MODES, false);
                if (mode == NONE) {
                    return failBy(FAULT_FORM);
                }
                readToken();
            }
            lineFollows = token == SEMICOLON;
            return lineFollows || token == END || failBy(FAULT_FORM);
        }

        /** Always false: what was read is a FAULT. */
        private boolean failBy(int kind) {
            fault = 8 * start + kind;
            return false;
        }

        private boolean readNumbers() {
            switch (verb) {
                case VERB_BUY:
                case VERB_SELL:
                    return readNumber(0, 0, TRADERS - 1) && readNumber(1, 1, MAX_SIZE)
                            && readNumber(2, 1, dearest(number[1]));
                case VERB_OFF:
                    return readNumber(0, 1, MAX_NUMBER);
                case VERB_CUT:
                    return readNumber(0, 1, MAX_NUMBER) && readNumber(1, 1, MAX_SIZE);
                case VERB_GRANT:
                    return readNumber(0, 0, MAX_GRANT);
                case VERB_LEAST:
                    return readNumber(0, 1, MAX_LEAST);
                default:
                    return true;
            }
        }

        private static int dearest(int size) {
            return size < 1 ? MAX_PRICE : Math.min(MAX_PRICE, MAX_WORTH / size);
        }

        private boolean readNumber(int i, int low, int high) {
            readToken();
            if (token != NUMBER) {
                return failBy(FAULT_FORM);
            }
            if (value < low || value > high) {
                return failBy(FAULT_BOUNDS);
            }
            number[i] = value;
            return true;
        }

        private void readToken() {
            while (place < end && (bytes[place] == 32 || bytes[place] == 10)) {
                place++;
            }
            start = place;
            if (place >= end) {
                token = END;
            } else if (isLetter(bytes[place])) {
                readWord();
            } else if (isDigit(bytes[place])) {
                readDigits();
            } else {
                token = bytes[place] == ';' ? SEMICOLON : WRONG;
                place++;
            }
        }

        private void readWord() {
            token = WORD;
            while (place < end && isLetter(bytes[place])) {
                place++;
            }
        }

        private void readDigits() {
            value = 0;
            while (place < end && isDigit(bytes[place])) {
                if (place - start < MAX_DIGITS) {
                    value = 10 * value + bytes[place] - '0';
                }
                place++;
            }
            token = place - start <= MAX_DIGITS ? NUMBER : WRONG;
        }

        private static boolean isLetter(int code) {
            return code >= 'a' && code <= 'z';
        }

        private static boolean isDigit(int code) {
            return code >= '0' && code <= '9';
        }

        /** Which word the TOKEN is of the verbs, of the MODES; NONE: none of them. */
        private int wordIn(int words, boolean verbs) {
            for (int i = 0; i < words; i++) {
                if (isWord(verbs ? verbText(i) : modeText(i))) {
                    return i;
                }
            }
            return NONE;
        }

        private boolean isWord(String text) {
            if (token != WORD || place - start != text.length()) {
                return false;
            }
            for (int i = 0; i < text.length(); i++) {
                if (bytes[start + i] != text.charAt(i)) {
                    return false;
                }
            }
            return true;
        }

        private static String verbText(int verb) {
            switch (verb) {
                case VERB_BUY:
                    return "buy";
                case VERB_SELL:
                    return "sell";
                case VERB_OFF:
                    return "off";
                case VERB_CUT:
                    return "cut";
                case VERB_GRANT:
                    return "grant";
                case VERB_LEAST:
                    return "least";
                case VERB_CALL:
                    return "call";
                default:
                    return "open";
            }
        }

        private static String modeText(int mode) {
            switch (mode) {
                case MODE_REST:
                    return "rest";
                case MODE_COME:
                    return "come";
                case MODE_BOTH:
                    return "both";
                default:
                    return "less";
            }
        }
    }
}
