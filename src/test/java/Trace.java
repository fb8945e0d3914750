import java.util.concurrent.Callable;
import java.util.function.Function;
import java.util.function.Supplier;

/**
 * What a market answers at last: to each question, and when all is taken back step by step. It uses the market up, but
 * stays below the 512 calls that the document promises.
 */
final class Trace {
    private static final int MORE_THAN_UNDONE = 9;

    private final StringBuilder text = new StringBuilder();
    private final DropMarket market;

    private Trace(DropMarket market) {
        this.market = market;
    }

    static String of(DropMarket market) {
        Trace trace = new Trace(market);
        trace.addState();
        trace.addErrors();
        trace.addHistory();
        return trace.text.toString();
    }

    /** Without the errors that execute stores. */
    static String ofState(DropMarket market) {
        Trace trace = new Trace(market);
        trace.addState();
        trace.addHistory();
        return trace.text.toString();
    }

    /** The call must throw this, and leave the market like one of which it was not asked. */
    static void refused(String what, Supplier<DropMarket> made, Class<? extends Exception> want,
            Function<DropMarket, ?> call) {
        DropMarket asked = made.get();
        Check.throwing(what, want, () -> call.apply(asked));
        Check.due(what + " changes nothing, and then the market", of(made.get()), of(asked));
    }

    private void add(String name, Callable<?> call) {
        text.append(name).append('=').append(Check.answer(call)).append(' ');
    }

    private void addState() {
        addStalls();
        addOrders();
        add("trades", market::tradeCount);
        add("drops", market::tradedQuantity);
        add("paid", market::turnover);
        add("last", market::lastPrice);
        add("open", market::isPoolOpen);
        add("time", market::time);
    }

    private void addStalls() {
        int stalls = market.stallCount();
        for (int i = 0; i < stalls; i++) {
            int stall = i;
            add("money", () -> market.moneyOf(stall));
            add("drops", () -> market.dropsOf(stall));
            add("free money", () -> market.freeMoneyOf(stall));
            add("free drops", () -> market.freeDropsOf(stall));
        }
    }

    private void addOrders() {
        int orders = market.orderCount();
        for (int position = 0; position < orders; position++) {
            int order = market.orderAt(position);
            text.append("order=").append(order).append(' ');
            add("stall", () -> market.stallOf(order));
            add("buys", () -> market.isBuying(order));
            add("price", () -> market.priceOf(order));
            add("quantity", () -> market.quantityOf(order));
            add("minutes", () -> market.minutesLeft(order));
        }
    }

    private void addErrors() {
        add("error", market::errorPosition);
        add("failed", market::failedCommand);
    }

    private void addHistory() {
        text.append("line=").append(Picture.line(market)).append(' ');
        add("buffer", () -> market.type('~'));
        add("next number", () -> market.placeSellFor(0, 99, 1, 60));
        for (int i = 0; i < MORE_THAN_UNDONE; i++) {
            add("undo", market::undo);
            addBriefly();
        }
        add("restore", market::restore);
        addBriefly();
        add("next number", () -> market.placeSellFor(0, 99, 1, 60));
    }

    private void addBriefly() {
        add("stalls", market::stallCount);
        add("orders", market::orderCount);
        add("paid", market::turnover);
        add("open", market::isPoolOpen);
        add("time", market::time);
    }
}
