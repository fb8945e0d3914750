import java.util.ArrayDeque;
import java.util.ArrayList;
import java.util.Comparator;
import java.util.Deque;
import java.util.List;
import java.util.NoSuchElementException;
import java.util.regex.Matcher;
import java.util.regex.Pattern;
import java.util.stream.IntStream;

/** The document once more, written with the Java library and other ways than the program's, to be compared with it. */
public final class PlainMarket {
    private static final Pattern TEXT = Pattern.compile(
            "(C)(;(C))*".replace("C", "stall( N)( N)|buy( D)( N)( N)|sell( D)( N)( N)|cancel( N)|pass( N)|open|close")
                    .replace("N", "[0-9]{1,3}").replace("D", "[0-9]"));

    private record Order(int number, int stall, boolean buys, int price, int quantity, int minutes) {
        Order with(int newQuantity, int newMinutes) {
            return new Order(number, stall, buys, price, newQuantity, newMinutes);
        }
    }

    private static final class State {
        List<int[]> stalls = new ArrayList<>();
        List<Order> orders = new ArrayList<>();
        List<int[]> trades = new ArrayList<>();
        int next = 0;
        int time = 0;
        boolean open = false;

        State copy() {
            State copy = new State();
            stalls.forEach(stall -> copy.stalls.add(stall.clone()));
            copy.orders = new ArrayList<>(orders);
            copy.trades = new ArrayList<>(trades);
            copy.next = next;
            copy.time = time;
            copy.open = open;
            return copy;
        }
    }

    private State now = new State();
    private State saved = null;
    private final Deque<State> past = new ArrayDeque<>();
    private String line = "";
    private String buffer = "";
    private Integer error = null;
    private Integer failed = null;
    private boolean inText = false;

    private void modified(State before) {
        if (!inText) {
            past.addLast(before);
            if (past.size() > 8) {
                past.removeFirst();
            }
        }
    }

    private static void demand(boolean holds, RuntimeException otherwise) {
        if (!holds) {
            throw otherwise;
        }
    }

    private static void range(int number, int least, int most) {
        demand(number >= least && number <= most, new IllegalArgumentException());
    }

    public int addStall(int money, int drops) {
        range(money, 0, 9999);
        range(drops, 0, 999);
        demand(now.stalls.size() < 6, new IllegalStateException());
        modified(now.copy());
        now.stalls.add(new int[] {money, drops});
        return now.stalls.size() - 1;
    }

    private int order(boolean buys, int stall, int price, int quantity, Integer minutes, boolean takes) {
        moneyOf(stall);
        range(price, 1, 99);
        range(quantity, 1, 50);
        if (minutes != null) {
            range(minutes, 1, 60);
        }
        demand(takes ? !now.open : now.orders.size() < 20, new IllegalStateException());
        demand(buys ? freeMoneyOf(stall) >= price * quantity : freeDropsOf(stall) >= quantity,
                new UnsupportedOperationException());
        modified(now.copy());
        int number = now.next++;
        int left = quantity;
        while (!now.open && left > 0) {
            List<Order> others = ranked(!buys);
            if (others.isEmpty()) {
                break;
            }
            Order best = others.get(0);
            if (buys ? best.price > price : best.price < price) {
                break;
            }
            int traded = Math.min(left, best.quantity);
            trade(buys ? stall : best.stall, buys ? best.stall : stall, best.price, traded);
            shrink(best, traded);
            left -= traded;
        }
        if (!takes && left > 0) {
            now.orders.add(new Order(number, stall, buys, price, left, minutes == null ? -1 : minutes));
        }
        return takes ? quantity - left : number;
    }

    private List<Order> ranked(boolean buys) {
        Comparator<Order> byPrice = Comparator.comparingInt(o -> buys ? -o.price : o.price);
        return now.orders.stream().filter(o -> o.buys == buys)
                .sorted(byPrice.thenComparingInt(o -> o.number)).toList();
    }

    private void shrink(Order order, int traded) {
        int index = now.orders.indexOf(order);
        if (order.quantity == traded) {
            now.orders.remove(index);
        } else {
            now.orders.set(index, order.with(order.quantity - traded, order.minutes));
        }
    }

    private void trade(int buyer, int seller, int price, int quantity) {
        now.stalls.get(buyer)[0] -= price * quantity;
        now.stalls.get(buyer)[1] += quantity;
        now.stalls.get(seller)[0] += price * quantity;
        now.stalls.get(seller)[1] -= quantity;
        now.trades.add(new int[] {price, quantity});
    }

    public int placeBuy(int stall, int price, int quantity) {
        return order(true, stall, price, quantity, null, false);
    }

    public int placeSell(int stall, int price, int quantity) {
        return order(false, stall, price, quantity, null, false);
    }

    public int placeBuyFor(int stall, int price, int quantity, int minutes) {
        return order(true, stall, price, quantity, minutes, false);
    }

    public int placeSellFor(int stall, int price, int quantity, int minutes) {
        return order(false, stall, price, quantity, minutes, false);
    }

    public int takeBuy(int stall, int price, int quantity) {
        return order(true, stall, price, quantity, null, true);
    }

    public int takeSell(int stall, int price, int quantity) {
        return order(false, stall, price, quantity, null, true);
    }

    private Order find(int number) {
        return now.orders.stream().filter(o -> o.number == number).findFirst().orElseThrow();
    }

    public int cancel(int order) {
        Order found = find(order);
        modified(now.copy());
        now.orders.remove(found);
        return found.quantity;
    }

    public int pass(int minutes) {
        range(minutes, 1, 60);
        modified(now.copy());
        int before = now.orders.size();
        for (int i = 0; i < minutes; i++) {
            now.time++;
            now.orders.replaceAll(o -> o.minutes < 0 ? o : o.with(o.quantity, o.minutes - 1));
            now.orders.removeIf(o -> o.minutes == 0);
        }
        return before - now.orders.size();
    }

    public int openPool() {
        demand(!now.open, new IllegalStateException());
        modified(now.copy());
        now.open = true;
        return now.orders.size();
    }

    public int closePool() {
        demand(now.open, new IllegalStateException());
        modified(now.copy());
        int traded = 0;
        int price = IntStream.rangeClosed(1, 99).filter(p -> volumeAt(p) > 0).findAny().isPresent() ? poolPrice() : 0;
        int volume = price == 0 ? 0 : volumeAt(price);
        while (traded < volume) {
            Order buy = ranked(true).get(0);
            Order sell = ranked(false).get(0);
            int quantity = Math.min(Math.min(buy.quantity, sell.quantity), volume - traded);
            trade(buy.stall, sell.stall, price, quantity);
            shrink(buy, quantity);
            shrink(sell, quantity);
            traded += quantity;
        }
        now.orders.clear();
        now.open = false;
        return volume;
    }

    public int stallCount() {
        return now.stalls.size();
    }

    public int moneyOf(int stall) {
        demand(stall >= 0 && stall < now.stalls.size(), new IndexOutOfBoundsException());
        return now.stalls.get(stall)[0];
    }

    public int dropsOf(int stall) {
        moneyOf(stall);
        return now.stalls.get(stall)[1];
    }

    public int freeMoneyOf(int stall) {
        return moneyOf(stall) - now.orders.stream().filter(o -> o.buys && o.stall == stall)
                .mapToInt(o -> o.price * o.quantity).sum();
    }

    public int freeDropsOf(int stall) {
        return dropsOf(stall) - now.orders.stream().filter(o -> !o.buys && o.stall == stall)
                .mapToInt(o -> o.quantity).sum();
    }

    public int totalMoney() {
        return now.stalls.stream().mapToInt(stall -> stall[0]).sum();
    }

    public int totalDrops() {
        return now.stalls.stream().mapToInt(stall -> stall[1]).sum();
    }

    public int stallByMoney(int rank) {
        demand(rank >= 0 && rank < now.stalls.size(), new NoSuchElementException());
        List<Integer> stalls = new ArrayList<>(IntStream.range(0, now.stalls.size()).boxed().toList());
        stalls.sort(Comparator.comparingInt(stall -> -now.stalls.get(stall)[0]));
        return stalls.get(rank);
    }

    public int orderCount() {
        return now.orders.size();
    }

    public int orderAt(int position) {
        demand(position >= 0 && position < now.orders.size(), new IndexOutOfBoundsException());
        return now.orders.get(position).number;
    }

    public int stallOf(int order) {
        return find(order).stall;
    }

    public boolean isBuying(int order) {
        return find(order).buys;
    }

    public int priceOf(int order) {
        return find(order).price;
    }

    public int quantityOf(int order) {
        return find(order).quantity;
    }

    public int minutesLeft(int order) {
        demand(find(order).minutes > 0, new IllegalStateException());
        return find(order).minutes;
    }

    public int bestBuy() {
        return ranked(true).stream().findFirst().orElseThrow().number;
    }

    public int bestSell() {
        return ranked(false).stream().findFirst().orElseThrow().number;
    }

    public int spread() {
        return priceOf(bestSell()) - priceOf(bestBuy());
    }

    public int spreadBySums() {
        return spread();
    }

    private int quantity(boolean buys, int least, int most) {
        return now.orders.stream().filter(o -> o.buys == buys && o.price >= least && o.price <= most)
                .mapToInt(o -> o.quantity).sum();
    }

    public int buyingAt(int price) {
        range(price, 1, 99);
        return quantity(true, price, price);
    }

    public int sellingAt(int price) {
        range(price, 1, 99);
        return quantity(false, price, price);
    }

    public int lastPrice() {
        demand(!now.trades.isEmpty(), new NoSuchElementException());
        return now.trades.get(now.trades.size() - 1)[0];
    }

    public int tradeCount() {
        return now.trades.size();
    }

    public int tradedQuantity() {
        return now.trades.stream().mapToInt(trade -> trade[1]).sum();
    }

    public long turnover() {
        return now.trades.stream().mapToLong(trade -> trade[0] * trade[1]).sum();
    }

    public double meanPrice() {
        demand(!now.trades.isEmpty(), new ArithmeticException());
        return (double) turnover() / (double) tradedQuantity();
    }

    public float buyingShare() {
        demand(!now.orders.isEmpty(), new ArithmeticException());
        return (float) ranked(true).size() / (float) now.orders.size();
    }

    public boolean isPoolOpen() {
        return now.open;
    }

    public int poolPrice() {
        Comparator<Integer> byVolume = Comparator.comparing(p -> -volumeAt(p));
        int price = IntStream.rangeClosed(1, 99).boxed().min(byVolume
                .thenComparing(p -> Math.abs(quantity(true, p, 99) - quantity(false, 1, p)))
                .thenComparing(p -> p)).orElseThrow();
        demand(volumeAt(price) > 0, new NoSuchElementException());
        return price;
    }

    public int poolPriceBySums() {
        return poolPrice();
    }

    public int volumeAt(int price) {
        range(price, 1, 99);
        return Math.min(quantity(true, price, 99), quantity(false, 1, price));
    }

    public int time() {
        return now.time;
    }

    public int writeOrder(int order) {
        Order found = find(order);
        line = found.number + (found.buys ? "b" : "s") + found.quantity + "x" + found.price;
        return line.length();
    }

    public int writeBook() {
        line = best(true) + "/" + best(false);
        return line.length();
    }

    private String best(boolean buys) {
        if (ranked(buys).isEmpty()) {
            return "-";
        }
        int price = ranked(buys).get(0).price;
        return quantity(buys, price, price) + "x" + price;
    }

    public char lineAt(int index) {
        demand(index >= 0 && index < line.length(), new IndexOutOfBoundsException());
        return line.charAt(index);
    }

    public boolean isConsistent() {
        return IntStream.range(0, now.stalls.size()).allMatch(s -> freeMoneyOf(s) >= 0 && freeDropsOf(s) >= 0);
    }

    public int type(char character) {
        range(character, 32, 126);
        demand(buffer.length() < 60, new IllegalStateException());
        buffer += character;
        return buffer.length();
    }

    /** The length of the longest beginning that a valid text can have. */
    private static int longestBeginning(String text) {
        for (int length = 1; length <= text.length(); length++) {
            Matcher matcher = TEXT.matcher(text.substring(0, length));
            if (!matcher.matches() && !matcher.hitEnd()) {
                return length - 1;
            }
        }
        return text.length();
    }

    public int execute() {
        String text = buffer;
        buffer = "";
        if (!TEXT.matcher(text).matches()) {
            error = longestBeginning(text);
            throw new IllegalArgumentException();
        }
        State before = now.copy();
        String[] commands = text.split(";");
        inText = true;
        for (int i = 0; i < commands.length; i++) {
            try {
                run(commands[i].split(" "));
            } catch (RuntimeException e) {
                now = before;
                inText = false;
                failed = i;
                throw new IllegalStateException();
            }
        }
        inText = false;
        modified(before);
        return commands.length;
    }

    private void run(String[] words) {
        int[] n = new int[3];
        for (int i = 1; i < words.length; i++) {
            n[i - 1] = Integer.parseInt(words[i]);
        }
        switch (words[0]) {
            case "stall" -> addStall(n[0], n[1]);
            case "buy" -> placeBuy(n[0], n[1], n[2]);
            case "sell" -> placeSell(n[0], n[1], n[2]);
            case "cancel" -> cancel(n[0]);
            case "pass" -> pass(n[0]);
            case "open" -> openPool();
            default -> closePool();
        }
    }

    public int errorPosition() {
        demand(error != null, new NoSuchElementException());
        return error;
    }

    public int failedCommand() {
        demand(failed != null, new NoSuchElementException());
        return failed;
    }

    public int undo() {
        demand(!past.isEmpty(), new IllegalStateException());
        now = past.removeLast();
        return past.size();
    }

    public int save() {
        saved = now.copy();
        return now.orders.size();
    }

    public int restore() {
        demand(saved != null, new IllegalStateException());
        now = saved.copy();
        past.clear();
        return now.orders.size();
    }
}
