import java.util.NoSuchElementException;
import java.util.function.BiFunction;
import java.util.function.Function;
import java.util.function.Supplier;

/** Each way in which there can be no order of a number. */
final class MissingOrders {
    private MissingOrders() {
    }

    static void refused(BiFunction<DropMarket, Integer, ?> asked) {
        refused("never given", DropMarket::new, 0, asked);
        refused("next to be given", MissingOrders::three, 3, asked);
        refused("below 0", MissingOrders::three, -1, asked);
        refused("above a full book", Markets::full, 20, asked);
        for (int far : Markets.FAR_NUMBERS) {
            refused("far away", Markets::full, far, asked);
        }
        refused("cancelled", () -> after(market -> market.cancel(0)), 0, asked);
        refused("cancelled in the middle", () -> after(market -> market.cancel(1)), 1, asked);
        refused("cancelled at the end", () -> after(market -> market.cancel(2)), 2, asked);
        refused("expired", () -> after(market -> market.pass(5)), 2, asked);
        refused("traded away", () -> after(market -> market.takeSell(0, 11, 2)), 1, asked);
        refused("traded away at once", () -> after(market -> market.placeSell(0, 11, 2)), 3, asked);
        refused("taken", () -> after(market -> market.takeBuy(0, 11, 2)), 3, asked);
        refused("undone", () -> after(DropMarket::undo), 2, asked);
        refused("of a closed pool", () -> after(market -> market.openPool() + market.closePool()), 0, asked);
        refused("behind a snapshot", () -> after(market -> market.save() + market.placeBuy(0, 1, 1)
                + market.restore()), 3, asked);
    }

    private static void refused(String what, Supplier<DropMarket> made, int order,
            BiFunction<DropMarket, Integer, ?> asked) {
        Trace.refused(what + ", order " + order, made, NoSuchElementException.class,
                market -> asked.apply(market, order));
    }

    /** Orders 0 and 1 last, and order 2 expires in 5 minutes. */
    private static DropMarket three() {
        DropMarket market = Markets.rich(1);
        market.placeBuy(0, 10, 2);
        market.placeBuy(0, 11, 2);
        market.placeBuyFor(0, 9, 2, 5);
        return market;
    }

    private static DropMarket after(Function<DropMarket, ?> calls) {
        DropMarket market = three();
        calls.apply(market);
        return market;
    }
}
