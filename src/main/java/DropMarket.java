import java.util.NoSuchElementException;

/**
 * A market where stalls buy and sell drops of rain: an order book with priority by price and time,
 * orders that expire or are cancelled, and a pool in which all trades are made at one price.
 */
public final class DropMarket {
    private static final int NONE = -1;
    private static final int MAX_STALLS = 6;
    private static final int MAX_MONEY = 9999;
    private static final int MAX_DROPS = 999;
    private static final int MAX_ORDERS = 20;
    private static final int MAX_PRICE = 99;
    private static final int MAX_QUANTITY = 50;
    private static final int MAX_MINUTES = 60;
    private static final int LASTING = 0;
    private static final int MAX_TEXT = 60;
    private static final int FIRST_CHARACTER = 32;
    private static final int LAST_CHARACTER = 126;
    private static final int MAX_PARAMETERS = 3;
    private static final int UNDO_DEPTH = 8;
    // A real spread lies from -98 to 98, so -1 could not tell that there is none.
    private static final int NO_SPREAD = 1000;

    private final State state = new State();
    private final State beforeText = new State();
    private final State snapshot = new State();
    private final History history = new History();
    private final PriceSums sums = new PriceSums();
    private final CommandText text = new CommandText();
    private final StringBuilder line = new StringBuilder();
    private boolean hasSnapshot = false;
    private int lastError = NONE;
    private int lastFailure = NONE;

    public DropMarket() {
    }

    // Stalls and orders

    public int addStall(int money, int drops) throws IllegalArgumentException, IllegalStateException {
        refuse(state.stallFault(money, drops));
        history.push(state);
        return state.stalls.open(money, drops);
    }

    public int placeBuy(int stall, int price, int quantity) throws IndexOutOfBoundsException,
            IllegalArgumentException, IllegalStateException, UnsupportedOperationException {
        return placeOrder(true, stall, price, quantity, LASTING, true);
    }

    public int placeSell(int stall, int price, int quantity) throws IndexOutOfBoundsException,
            IllegalArgumentException, IllegalStateException, UnsupportedOperationException {
        return placeOrder(false, stall, price, quantity, LASTING, true);
    }

    public int placeBuyFor(int stall, int price, int quantity, int minutes) throws IndexOutOfBoundsException,
            IllegalArgumentException, IllegalStateException, UnsupportedOperationException {
        return placeOrder(true, stall, price, quantity, minutes, isWithin(minutes, 1, MAX_MINUTES));
    }

    public int placeSellFor(int stall, int price, int quantity, int minutes) throws IndexOutOfBoundsException,
            IllegalArgumentException, IllegalStateException, UnsupportedOperationException {
        return placeOrder(false, stall, price, quantity, minutes, isWithin(minutes, 1, MAX_MINUTES));
    }

    public int takeBuy(int stall, int price, int quantity) throws IndexOutOfBoundsException,
            IllegalArgumentException, IllegalStateException, UnsupportedOperationException {
        return takeAtOnce(true, stall, price, quantity);
    }

    public int takeSell(int stall, int price, int quantity) throws IndexOutOfBoundsException,
            IllegalArgumentException, IllegalStateException, UnsupportedOperationException {
        return takeAtOnce(false, stall, price, quantity);
    }

    public int cancel(int order) throws NoSuchElementException {
        refuse(state.cancelFault(order));
        history.push(state);
        return state.withdraw(order);
    }

    public int pass(int minutes) throws IllegalArgumentException {
        refuse(state.passFault(minutes));
        history.push(state);
        return state.letPass(minutes);
    }

    public int openPool() throws IllegalStateException {
        refuse(state.openFault());
        history.push(state);
        return state.startPool();
    }

    public int closePool() throws IllegalStateException {
        refuse(state.closeFault());
        history.push(state);
        return state.endPool();
    }

    // Accounts

    public int stallCount() {
        return state.stalls.count;
    }

    public int moneyOf(int stall) throws IndexOutOfBoundsException {
        requireStall(stall);
        return state.stalls.money.get(stall);
    }

    public int dropsOf(int stall) throws IndexOutOfBoundsException {
        requireStall(stall);
        return state.stalls.drops.get(stall);
    }

    public int freeMoneyOf(int stall) throws IndexOutOfBoundsException {
        requireStall(stall);
        return state.freeMoney(stall);
    }

    public int freeDropsOf(int stall) throws IndexOutOfBoundsException {
        requireStall(stall);
        return state.freeDrops(stall);
    }

    public int totalMoney() {
        return state.stalls.money.sum();
    }

    public int totalDrops() {
        return state.stalls.drops.sum();
    }

    public int stallByMoney(int rank) throws NoSuchElementException {
        int stall = state.stalls.withRank(rank);
        if (stall == NONE) {
            throw new NoSuchElementException("no such rank");
        }
        return stall;
    }

    // The book

    public int orderCount() {
        return state.book.count;
    }

    public int orderAt(int position) throws IndexOutOfBoundsException {
        if (position < 0 || position >= state.book.count) {
            throw new IndexOutOfBoundsException("no such position");
        }
        return state.book.numbers.get(position);
    }

    public int stallOf(int order) throws NoSuchElementException {
        return state.book.stalls.get(requireSlot(order));
    }

    public boolean isBuying(int order) throws NoSuchElementException {
        return state.book.buys(requireSlot(order));
    }

    public int priceOf(int order) throws NoSuchElementException {
        return state.book.prices.get(requireSlot(order));
    }

    public int quantityOf(int order) throws NoSuchElementException {
        return state.book.quantities.get(requireSlot(order));
    }

    public int minutesLeft(int order) throws NoSuchElementException, IllegalStateException {
        int minutes = state.book.minutes.get(requireSlot(order));
        if (minutes == LASTING) {
            throw new IllegalStateException("the order does not expire");
        }
        return minutes;
    }

    public int bestBuy() throws NoSuchElementException {
        return bestOrder(true);
    }

    public int bestSell() throws NoSuchElementException {
        return bestOrder(false);
    }

    public int spread() throws NoSuchElementException {
        return requireSpread(state.book.spreadOfBest());
    }

    public int spreadBySums() throws NoSuchElementException {
        sums.gather(state.book);
        return requireSpread(sums.spreadOfSums());
    }

    public int buyingAt(int price) throws IllegalArgumentException {
        requirePrice(price);
        return state.book.quantityAt(true, price);
    }

    public int sellingAt(int price) throws IllegalArgumentException {
        requirePrice(price);
        return state.book.quantityAt(false, price);
    }

    // Trades and pool

    public int lastPrice() throws NoSuchElementException {
        if (state.trades == 0) {
            throw new NoSuchElementException("there was no trade");
        }
        return state.latestPrice;
    }

    public int tradeCount() {
        return state.trades;
    }

    public int tradedQuantity() {
        return state.tradedDrops;
    }

    public long turnover() {
        return state.paidMoney;
    }

    public double meanPrice() throws ArithmeticException {
        if (state.tradedDrops == 0) {
            throw new ArithmeticException("there was no trade");
        }
        return (double) state.paidMoney / (double) state.tradedDrops;
    }

    public float buyingShare() throws ArithmeticException {
        if (state.book.count == 0) {
            throw new ArithmeticException("there are no orders");
        }
        return (float) state.book.buyingOrders() / (float) state.book.count;
    }

    public boolean isPoolOpen() {
        return state.poolIsOpen;
    }

    public int poolPrice() throws NoSuchElementException {
        return requirePoolPrice(state.book.poolByTrying());
    }

    public int poolPriceBySums() throws NoSuchElementException {
        sums.gather(state.book);
        return requirePoolPrice(sums.poolBySums());
    }

    public int volumeAt(int price) throws IllegalArgumentException {
        requirePrice(price);
        return state.book.volume(price);
    }

    public int time() {
        return state.minute;
    }

    // Lines and checks

    public int writeOrder(int order) throws NoSuchElementException {
        int slot = requireSlot(order);
        line.setLength(0);
        line.append(order);
        line.append(state.book.buys(slot) ? 'b' : 's');
        line.append(state.book.quantities.get(slot));
        line.append('x');
        line.append(state.book.prices.get(slot));
        return line.length();
    }

    public int writeBook() {
        line.setLength(0);
        appendBest(true);
        line.append('/');
        appendBest(false);
        return line.length();
    }

    public char lineAt(int index) throws IndexOutOfBoundsException {
        if (index < 0 || index >= line.length()) {
            throw new IndexOutOfBoundsException("no such character");
        }
        return line.charAt(index);
    }

    public boolean isConsistent() {
        sums.gather(state.book);
        return state.book.spreadOfBest() == sums.spreadOfSums()
                && state.book.poolByTrying().price == sums.poolBySums().price
                && state.isCovered();
    }

    // Text, undo and snapshots

    public int type(char character) throws IllegalArgumentException, IllegalStateException {
        if (!isWithin(character, FIRST_CHARACTER, LAST_CHARACTER)) {
            throw new IllegalArgumentException("not a character for the buffer");
        }
        if (text.isFull()) {
            throw new IllegalStateException("the buffer is full");
        }
        return text.append(character);
    }

    public int execute() throws IllegalArgumentException, IllegalStateException {
        int count = text.countCommands();
        if (count == NONE) {
            lastError = text.position;
            text.empty();
            throw new IllegalArgumentException("the text is malformed");
        }
        beforeText.copyFrom(state);
        text.rewind();
        int done = 0;
        while (done < count && text.readCommand() && commandFault() == Fault.NOTHING) {
            runCommand();
            done++;
        }
        text.empty();
        if (done < count) {
            state.copyFrom(beforeText);
            lastFailure = done;
            throw new IllegalStateException("a command failed");
        }
        history.push(beforeText);
        return count;
    }

    public int errorPosition() throws NoSuchElementException {
        if (lastError == NONE) {
            throw new NoSuchElementException("no text was malformed so far");
        }
        return lastError;
    }

    public int failedCommand() throws NoSuchElementException {
        if (lastFailure == NONE) {
            throw new NoSuchElementException("no command failed so far");
        }
        return lastFailure;
    }

    public int undo() throws IllegalStateException {
        if (history.depth == 0) {
            throw new IllegalStateException("nothing can be undone");
        }
        history.popInto(state);
        return history.depth;
    }

    public int save() {
        snapshot.copyFrom(state);
        hasSnapshot = true;
        return state.book.count;
    }

    public int restore() throws IllegalStateException {
        if (!hasSnapshot) {
            throw new IllegalStateException("there is no snapshot");
        }
        state.copyFrom(snapshot);
        history.forget();
        return state.book.count;
    }

    // Parts of the calls above

    private int placeOrder(boolean buying, int stall, int price, int quantity, int minutes, boolean minutesFit) {
        refuse(state.orderFault(buying, stall, price, quantity, minutesFit, state.book.isFull()));
        history.push(state);
        return state.place(buying, stall, price, quantity, minutes);
    }

    private int takeAtOnce(boolean buying, int stall, int price, int quantity) {
        refuse(state.orderFault(buying, stall, price, quantity, true, state.poolIsOpen));
        history.push(state);
        return state.take(buying, stall, price, quantity);
    }

    private static boolean isWithin(int number, int least, int greatest) {
        return number >= least && number <= greatest;
    }

    private static void refuse(Fault fault) {
        if (fault == Fault.NO_STALL) {
            throw new IndexOutOfBoundsException("no such stall");
        }
        if (fault == Fault.OUT_OF_RANGE) {
            throw new IllegalArgumentException("a number is out of range");
        }
        if (fault == Fault.WRONG_STATE) {
            throw new IllegalStateException("the market does not allow this now");
        }
        if (fault == Fault.NOT_ENOUGH) {
            throw new UnsupportedOperationException("the stall has not enough for this");
        }
        if (fault == Fault.NO_ORDER) {
            throw new NoSuchElementException("no such order");
        }
    }

    private void requireStall(int stall) {
        if (!state.stalls.has(stall)) {
            throw new IndexOutOfBoundsException("no such stall");
        }
    }

    private int requireSlot(int order) {
        int slot = state.book.slotOf(order);
        if (slot == NONE) {
            throw new NoSuchElementException("no such order");
        }
        return slot;
    }

    private static void requirePrice(int price) {
        if (!isWithin(price, 1, MAX_PRICE)) {
            throw new IllegalArgumentException("the price is out of range");
        }
    }

    private static int requireSpread(int spread) {
        if (spread == NO_SPREAD) {
            throw new NoSuchElementException("one side has no order");
        }
        return spread;
    }

    private static int requirePoolPrice(PoolChoice choice) {
        if (choice.price == NONE) {
            throw new NoSuchElementException("the greatest volume is 0");
        }
        return choice.price;
    }

    private int bestOrder(boolean buying) {
        int slot = state.book.bestSlot(buying);
        if (slot == NONE) {
            throw new NoSuchElementException("there is no order on this side");
        }
        return state.book.numbers.get(slot);
    }

    private void appendBest(boolean buying) {
        int slot = state.book.bestSlot(buying);
        if (slot == NONE) {
            line.append('-');
            return;
        }
        int price = state.book.prices.get(slot);
        line.append(state.book.quantityAt(buying, price));
        line.append('x');
        line.append(price);
    }

    private Fault commandFault() {
        int first = text.parameters.get(0);
        int second = text.parameters.get(1);
        int third = text.parameters.get(2);
        switch (text.verb) {
            case STALL:
                return state.stallFault(first, second);
            case BUY:
                return state.orderFault(true, first, second, third, true, state.book.isFull());
            case SELL:
                return state.orderFault(false, first, second, third, true, state.book.isFull());
            case CANCEL:
                return state.cancelFault(first);
            case PASS:
                return state.passFault(first);
            case OPEN:
                return state.openFault();
            default:
                return state.closeFault();
        }
    }

    private void runCommand() {
        int first = text.parameters.get(0);
        int second = text.parameters.get(1);
        int third = text.parameters.get(2);
        switch (text.verb) {
            case STALL:
                state.stalls.open(first, second);
                break;
            case BUY:
                state.place(true, first, second, third, LASTING);
                break;
            case SELL:
                state.place(false, first, second, third, LASTING);
                break;
            case CANCEL:
                state.withdraw(first);
                break;
            case PASS:
                state.letPass(first);
                break;
            case OPEN:
                state.startPool();
                break;
            default:
                state.endPool();
                break;
        }
    }

    /** Why a call cannot be carried out; each one stands for an exception of the face. */
    private enum Fault {
        NOTHING, NO_STALL, OUT_OF_RANGE, WRONG_STATE, NOT_ENOUGH, NO_ORDER
    }

    /** The first word of a command, and how many one-digit and three-digit parameters follow it. */
    private enum Verb {
        STALL("stall", 0, 2),
        BUY("buy", 1, 2),
        SELL("sell", 1, 2),
        CANCEL("cancel", 0, 1),
        PASS("pass", 0, 1),
        OPEN("open", 0, 0),
        CLOSE("close", 0, 0);

        final String word;
        final int digits;
        final int numbers;

        Verb(String word, int digits, int numbers) {
            this.word = word;
            this.digits = digits;
            this.numbers = numbers;
        }
    }

    /** Numbers of a fixed count; an index outside of them reads 0 and changes nothing. */
    private static final class Row {
        private final int[] cells;

        Row(int length) {
            cells = new int[Math.max(length, 0)];
        }

        int get(int index) {
            return index >= 0 && index < cells.length ? cells[index] : 0;
        }

        void set(int index, int value) {
            if (index >= 0 && index < cells.length) {
                cells[index] = value;
            }
        }

        void add(int index, int change) {
            if (index >= 0 && index < cells.length) {
                cells[index] += change;
            }
        }

        int sum() {
            int sum = 0;
            for (int cell : cells) {
                sum += cell;
            }
            return sum;
        }

        /** Takes a number out; those behind it move up, and a 0 follows them. */
        void closeGap(int index) {
            if (index < 0 || index >= cells.length) {
                return;
            }
            for (int i = index; i + 1 < cells.length; i++) {
                cells[i] = cells[i + 1];
            }
            cells[cells.length - 1] = 0;
        }

        void clear() {
            for (int i = 0; i < cells.length; i++) {
                cells[i] = 0;
            }
        }

        void copyFrom(Row other) {
            for (int i = 0; i < cells.length && i < other.cells.length; i++) {
                cells[i] = other.cells[i];
            }
        }
    }

    /** The stalls with all their money and drops, whether bound by orders or free. */
    private static final class Stalls {
        final Row money = new Row(MAX_STALLS);
        final Row drops = new Row(MAX_STALLS);
        int count = 0;

        boolean has(int stall) {
            return stall >= 0 && stall < count;
        }

        boolean isFull() {
            return count >= MAX_STALLS;
        }

        int open(int itsMoney, int itsDrops) {
            int stall = count;
            money.set(stall, itsMoney);
            drops.set(stall, itsDrops);
            count++;
            return stall;
        }

        int withRank(int rank) {
            for (int stall = 0; stall < count; stall++) {
                if (rankOf(stall) == rank) {
                    return stall;
                }
            }
            return NONE;
        }

        private int rankOf(int stall) {
            int ahead = 0;
            for (int other = 0; other < count; other++) {
                int surplus = money.get(other) - money.get(stall);
                if (surplus > 0 || (surplus == 0 && other < stall)) {
                    ahead++;
                }
            }
            return ahead;
        }

        void copyFrom(Stalls other) {
            money.copyFrom(other.money);
            drops.copyFrom(other.drops);
            count = other.count;
        }
    }

    /** The orders in slots from 0, ascending by their numbers. */
    private static final class Book {
        final Row numbers = new Row(MAX_ORDERS);
        final Row stalls = new Row(MAX_ORDERS);
        final Row sides = new Row(MAX_ORDERS);
        final Row prices = new Row(MAX_ORDERS);
        final Row quantities = new Row(MAX_ORDERS);
        final Row minutes = new Row(MAX_ORDERS);
        int count = 0;

        boolean isFull() {
            return count >= MAX_ORDERS;
        }

        boolean buys(int slot) {
            return sides.get(slot) == 1;
        }

        int slotOf(int number) {
            for (int slot = 0; slot < count; slot++) {
                if (numbers.get(slot) == number) {
                    return slot;
                }
            }
            return NONE;
        }

        void enter(int number, int stall, boolean buying, int price, int quantity, int itsMinutes) {
            numbers.set(count, number);
            stalls.set(count, stall);
            sides.set(count, buying ? 1 : 0);
            prices.set(count, price);
            quantities.set(count, quantity);
            minutes.set(count, itsMinutes);
            count++;
        }

        void remove(int slot) {
            numbers.closeGap(slot);
            stalls.closeGap(slot);
            sides.closeGap(slot);
            prices.closeGap(slot);
            quantities.closeGap(slot);
            minutes.closeGap(slot);
            count--;
        }

        void reduce(int slot, int traded) {
            quantities.add(slot, -traded);
            if (quantities.get(slot) == 0) {
                remove(slot);
            }
        }

        void clear() {
            count = 0;
        }

        int bestSlot(boolean buying) {
            int best = NONE;
            for (int slot = 0; slot < count; slot++) {
                if (buys(slot) == buying && (best == NONE || isAhead(buying, slot, best))) {
                    best = slot;
                }
            }
            return best;
        }

        // Slots ascend by number, so with the same price the earlier slot keeps its priority.
        private boolean isAhead(boolean buying, int slot, int earlier) {
            int more = prices.get(slot) - prices.get(earlier);
            return buying ? more > 0 : more < 0;
        }

        int spreadOfBest() {
            int buy = bestSlot(true);
            int sell = bestSlot(false);
            return buy == NONE || sell == NONE ? NO_SPREAD : prices.get(sell) - prices.get(buy);
        }

        int buyingOrders() {
            int orders = 0;
            for (int slot = 0; slot < count; slot++) {
                if (buys(slot)) {
                    orders++;
                }
            }
            return orders;
        }

        int quantityAt(boolean buying, int price) {
            int sum = 0;
            for (int slot = 0; slot < count; slot++) {
                if (buys(slot) == buying && prices.get(slot) == price) {
                    sum += quantities.get(slot);
                }
            }
            return sum;
        }

        int boundMoney(int stall) {
            int sum = 0;
            for (int slot = 0; slot < count; slot++) {
                if (buys(slot) && stalls.get(slot) == stall) {
                    sum += prices.get(slot) * quantities.get(slot);
                }
            }
            return sum;
        }

        int boundDrops(int stall) {
            int sum = 0;
            for (int slot = 0; slot < count; slot++) {
                if (!buys(slot) && stalls.get(slot) == stall) {
                    sum += quantities.get(slot);
                }
            }
            return sum;
        }

        int demand(int price) {
            int sum = 0;
            for (int slot = 0; slot < count; slot++) {
                if (buys(slot) && prices.get(slot) >= price) {
                    sum += quantities.get(slot);
                }
            }
            return sum;
        }

        int supply(int price) {
            int sum = 0;
            for (int slot = 0; slot < count; slot++) {
                if (!buys(slot) && prices.get(slot) <= price) {
                    sum += quantities.get(slot);
                }
            }
            return sum;
        }

        int volume(int price) {
            return Math.min(demand(price), supply(price));
        }

        PoolChoice poolByTrying() {
            PoolChoice choice = new PoolChoice();
            for (int price = 1; price <= MAX_PRICE; price++) {
                choice.consider(price, demand(price), supply(price));
            }
            return choice;
        }

        void copyFrom(Book other) {
            numbers.copyFrom(other.numbers);
            stalls.copyFrom(other.stalls);
            sides.copyFrom(other.sides);
            prices.copyFrom(other.prices);
            quantities.copyFrom(other.quantities);
            minutes.copyFrom(other.minutes);
            count = other.count;
        }
    }

    /** The second way to the spread and the price of the pool: the quantities of each side, price by price. */
    private static final class PriceSums {
        private final Row buying = new Row(MAX_PRICE + 1);
        private final Row selling = new Row(MAX_PRICE + 1);

        void gather(Book book) {
            buying.clear();
            selling.clear();
            for (int slot = 0; slot < book.count; slot++) {
                Row side = book.buys(slot) ? buying : selling;
                side.add(book.prices.get(slot), book.quantities.get(slot));
            }
        }

        int spreadOfSums() {
            int highestBuy = NONE;
            int lowestSell = NONE;
            for (int price = 1; price <= MAX_PRICE; price++) {
                if (buying.get(price) > 0) {
                    highestBuy = price;
                }
                if (selling.get(price) > 0 && lowestSell == NONE) {
                    lowestSell = price;
                }
            }
            return highestBuy == NONE || lowestSell == NONE ? NO_SPREAD : lowestSell - highestBuy;
        }

        PoolChoice poolBySums() {
            PoolChoice choice = new PoolChoice();
            int demand = buying.sum();
            int supply = 0;
            for (int price = 1; price <= MAX_PRICE; price++) {
                demand -= buying.get(price - 1);
                supply += selling.get(price);
                choice.consider(price, demand, supply);
            }
            return choice;
        }
    }

    /** The price of the pool, NONE if the greatest volume is 0; prices are to be considered from the lowest on. */
    private static final class PoolChoice {
        int price = NONE;
        int volume = 0;
        private int surplus = 0;

        void consider(int candidate, int demand, int supply) {
            int itsVolume = Math.min(demand, supply);
            int itsSurplus = Math.abs(demand - supply);
            if (itsVolume > volume || (itsVolume == volume && itsSurplus < surplus)) {
                price = candidate;
                volume = itsVolume;
                surplus = itsSurplus;
            }
        }
    }

    /** All that is undone, saved and restored. What changes it expects that its fault was asked for first. */
    private static final class State {
        final Stalls stalls = new Stalls();
        final Book book = new Book();
        boolean poolIsOpen = false;
        int minute = 0;
        int nextNumber = 0;
        int latestPrice = 0;
        int trades = 0;
        int tradedDrops = 0;
        long paidMoney = 0;

        Fault stallFault(int money, int drops) {
            if (!isWithin(money, 0, MAX_MONEY) || !isWithin(drops, 0, MAX_DROPS)) {
                return Fault.OUT_OF_RANGE;
            }
            return stalls.isFull() ? Fault.WRONG_STATE : Fault.NOTHING;
        }

        Fault orderFault(boolean buying, int stall, int price, int quantity, boolean minutesFit,
                boolean isHindered) {
            if (!stalls.has(stall)) {
                return Fault.NO_STALL;
            }
            if (!isWithin(price, 1, MAX_PRICE) || !isWithin(quantity, 1, MAX_QUANTITY) || !minutesFit) {
                return Fault.OUT_OF_RANGE;
            }
            if (isHindered) {
                return Fault.WRONG_STATE;
            }
            boolean isEnough = buying ? freeMoney(stall) >= price * quantity : freeDrops(stall) >= quantity;
            return isEnough ? Fault.NOTHING : Fault.NOT_ENOUGH;
        }

        Fault cancelFault(int number) {
            return book.slotOf(number) == NONE ? Fault.NO_ORDER : Fault.NOTHING;
        }

        Fault passFault(int minutes) {
            return isWithin(minutes, 1, MAX_MINUTES) ? Fault.NOTHING : Fault.OUT_OF_RANGE;
        }

        Fault openFault() {
            return poolIsOpen ? Fault.WRONG_STATE : Fault.NOTHING;
        }

        Fault closeFault() {
            return poolIsOpen ? Fault.NOTHING : Fault.WRONG_STATE;
        }

        int freeMoney(int stall) {
            return stalls.money.get(stall) - book.boundMoney(stall);
        }

        int freeDrops(int stall) {
            return stalls.drops.get(stall) - book.boundDrops(stall);
        }

        boolean isCovered() {
            for (int stall = 0; stall < stalls.count; stall++) {
                if (freeMoney(stall) < 0 || freeDrops(stall) < 0) {
                    return false;
                }
            }
            return true;
        }

        int place(boolean buying, int stall, int price, int quantity, int minutes) {
            int number = nextNumber;
            nextNumber++;
            int left = poolIsOpen ? quantity : quantity - tradeNew(buying, stall, price, quantity);
            if (left > 0) {
                book.enter(number, stall, buying, price, left, minutes);
            }
            return number;
        }

        int take(boolean buying, int stall, int price, int quantity) {
            nextNumber++;
            return tradeNew(buying, stall, price, quantity);
        }

        /** Trades a new order with the book as far as the prices allow; returns the traded quantity. */
        private int tradeNew(boolean buying, int stall, int price, int quantity) {
            int left = quantity;
            for (int meetings = 0; meetings < MAX_ORDERS && left > 0; meetings++) {
                int slot = book.bestSlot(!buying);
                if (slot == NONE) {
                    break;
                }
                int offered = book.prices.get(slot);
                if (buying ? offered > price : offered < price) {
                    break;
                }
                int traded = Math.min(left, book.quantities.get(slot));
                int other = book.stalls.get(slot);
                trade(buying ? stall : other, buying ? other : stall, offered, traded);
                book.reduce(slot, traded);
                left -= traded;
            }
            return quantity - left;
        }

        private void trade(int buyer, int seller, int price, int quantity) {
            int paid = price * quantity;
            stalls.money.add(buyer, -paid);
            stalls.money.add(seller, paid);
            stalls.drops.add(seller, -quantity);
            stalls.drops.add(buyer, quantity);
            latestPrice = price;
            trades++;
            tradedDrops += quantity;
            paidMoney += paid;
        }

        int withdraw(int number) {
            int slot = book.slotOf(number);
            int left = book.quantities.get(slot);
            book.remove(slot);
            return left;
        }

        int letPass(int minutes) {
            int expired = 0;
            minute += minutes;
            // From the last slot on, as a removed order moves those behind it.
            for (int slot = book.count - 1; slot >= 0; slot--) {
                int left = book.minutes.get(slot);
                if (left > minutes) {
                    book.minutes.set(slot, left - minutes);
                } else if (left != LASTING) {
                    book.remove(slot);
                    expired++;
                }
            }
            return expired;
        }

        int startPool() {
            poolIsOpen = true;
            return book.count;
        }

        int endPool() {
            PoolChoice choice = book.poolByTrying();
            tradePool(choice.price, choice.volume);
            book.clear();
            poolIsOpen = false;
            return choice.volume;
        }

        private void tradePool(int price, int volume) {
            int missing = volume;
            for (int meetings = 0; meetings < MAX_ORDERS && missing > 0; meetings++) {
                int buy = book.bestSlot(true);
                int sell = book.bestSlot(false);
                if (buy == NONE || sell == NONE) {
                    break;
                }
                int both = Math.min(book.quantities.get(buy), book.quantities.get(sell));
                int traded = Math.min(both, missing);
                trade(book.stalls.get(buy), book.stalls.get(sell), price, traded);
                // The later slot first, as a removed order moves those behind it.
                book.reduce(Math.max(buy, sell), traded);
                book.reduce(Math.min(buy, sell), traded);
                missing -= traded;
            }
        }

        void copyFrom(State other) {
            stalls.copyFrom(other.stalls);
            book.copyFrom(other.book);
            poolIsOpen = other.poolIsOpen;
            minute = other.minute;
            nextNumber = other.nextNumber;
            latestPrice = other.latestPrice;
            trades = other.trades;
            tradedDrops = other.tradedDrops;
            paidMoney = other.paidMoney;
        }
    }

    /** The states before the last modifications, in a ring of rows that are made once. */
    private static final class History {
        private final State[] ring = new State[UNDO_DEPTH];
        private int newest = 0;
        int depth = 0;

        History() {
            for (int i = 0; i < ring.length; i++) {
                ring[i] = new State();
            }
        }

        void push(State state) {
            newest = newest + 1 < ring.length ? newest + 1 : 0;
            depth = Math.min(depth + 1, UNDO_DEPTH);
            State row = newestRow();
            if (row != null) {
                row.copyFrom(state);
            }
        }

        void popInto(State state) {
            State row = newestRow();
            if (row != null) {
                state.copyFrom(row);
            }
            newest = newest > 0 ? newest - 1 : ring.length - 1;
            depth = Math.max(depth - 1, 0);
        }

        void forget() {
            depth = 0;
        }

        private State newestRow() {
            return newest >= 0 && newest < ring.length ? ring[newest] : null;
        }
    }

    /** The text buffer, and the command in it that was read last. */
    private static final class CommandText {
        private static final Verb[] VERBS = Verb.values();

        private final StringBuilder buffer = new StringBuilder();
        final Row parameters = new Row(MAX_PARAMETERS);
        Verb verb = Verb.OPEN;
        int position = 0;

        boolean isFull() {
            return buffer.length() >= MAX_TEXT;
        }

        int append(char character) {
            buffer.append(character);
            return buffer.length();
        }

        void empty() {
            buffer.setLength(0);
            position = 0;
        }

        void rewind() {
            position = 0;
        }

        /** Counts the commands; NONE if the text is malformed: then the position is that of the error. */
        int countCommands() {
            rewind();
            for (int count = 1; count <= MAX_TEXT; count++) {
                if (!readCommand()) {
                    return NONE;
                }
                if (position == buffer.length()) {
                    return count;
                }
            }
            return NONE;
        }

        /** Reads a command, or stops at the first character that cannot continue a valid text. */
        boolean readCommand() {
            if (position > 0 && !readSign(';')) {
                return false;
            }
            return readVerb() && readParameters();
        }

        private boolean readVerb() {
            int longest = 0;
            for (Verb candidate : VERBS) {
                int matching = matchingLetters(candidate.word);
                if (matching == candidate.word.length()) {
                    verb = candidate;
                    position += matching;
                    return true;
                }
                longest = Math.max(longest, matching);
            }
            position += longest;
            return false;
        }

        private int matchingLetters(String word) {
            int matching = 0;
            while (matching < word.length() && standsAt(position + matching, word.charAt(matching))) {
                matching++;
            }
            return matching;
        }

        private boolean readParameters() {
            for (int i = 0; i < verb.digits + verb.numbers; i++) {
                if (!readSign(' ') || !readNumber(i, i < verb.digits ? 1 : 3)) {
                    return false;
                }
            }
            return true;
        }

        private boolean readNumber(int index, int mostDigits) {
            int number = 0;
            int digits = 0;
            while (digits < mostDigits && digitAt(position) != NONE) {
                number = 10 * number + digitAt(position);
                digits++;
                position++;
            }
            parameters.set(index, number);
            return digits > 0;
        }

        private boolean readSign(char sign) {
            if (!standsAt(position, sign)) {
                return false;
            }
            position++;
            return true;
        }

        private boolean standsAt(int index, char sign) {
            return index >= 0 && index < buffer.length() && buffer.charAt(index) == sign;
        }

        private int digitAt(int index) {
            if (index < 0 || index >= buffer.length()) {
                return NONE;
            }
            char sign = buffer.charAt(index);
            return sign >= '0' && sign <= '9' ? sign - '0' : NONE;
        }
    }
}
