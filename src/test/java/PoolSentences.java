import java.util.NoSuchElementException;
import java.util.function.Function;

/** Promises 11, 12, 34 to 38 and 40 to 44, sentence by sentence. */
final class PoolSentences {
    private static final Class<IllegalStateException> STATE = IllegalStateException.class;
    private static final Class<NoSuchElementException> NONE = NoSuchElementException.class;
    private static final String NO_VOLUME = "Throws `NoSuchElementException` if the greatest volume is 0";

    private PoolSentences() {
    }

    static void test() {
        opening();
        closing();
        latestPrice();
        tradesSoFar();
        turnover();
        meanPrice();
        openness();
        poolPrices();
        volumes();
        time();
    }

    private static void opening() {
        Sentence.holds(11, "Opens the pool.", () -> {
            DropMarket market = Markets.full();
            market.openPool();
            Check.due("open", true, market.isPoolOpen());
            Check.due("the orders stay", 20, market.orderCount());
            Check.due("nothing is traded", 0, market.tradeCount());
        });
        Sentence.holds(11, "Returns the number of orders in the book.", () -> {
            Check.due("none", 0, new DropMarket().openPool());
            Check.due("a full book", 20, Markets.full().openPool());
        });
        Sentence.holds(11, "Throws `IllegalStateException` if it is open", () -> {
            Trace.refused("an empty pool", () -> Markets.opened(0), STATE, DropMarket::openPool);
            Trace.refused("a full pool", Markets::fullAndOpen, STATE, DropMarket::openPool);
            DropMarket market = Markets.fullAndOpen();
            market.undo();
            Check.due("not any more", 20, market.openPool());
            market.closePool();
            Check.due("not again", 0, market.openPool());
        });
    }

    private static void closing() {
        Sentence.holds(12, "Closes the pool.", () -> {
            DropMarket market = Markets.fullAndOpen();
            market.closePool();
            Check.due("open", false, market.isPoolOpen());
            market.placeSell(0, 10, 1);
            Check.due("orders trade again", 1, market.takeBuy(0, 10, 1));
        });
        Sentence.holds(12, "Returns the volume that is traded.", () -> {
            Check.due("of an empty pool", 0, Markets.opened(0).closePool());
            Check.due("of orders that do not meet", 0, Markets.fullAndOpen().closePool());
            Check.due("the least", 1, meeting(40, 40, 1).closePool());
            Check.due("of one pair", 50, meeting(99, 1, 50).closePool());
            DropMarket greatest = greatestPool();
            Check.due("the greatest", 500, greatest.closePool());
            Check.due("it is traded", 500, greatest.tradedQuantity());
        });
        Sentence.holds(12, "Throws `IllegalStateException` if it is closed", () -> {
            Trace.refused("at first", DropMarket::new, STATE, DropMarket::closePool);
            Trace.refused("with orders", Markets::full, STATE, DropMarket::closePool);
            Trace.refused("closed already", () -> closed(Markets.opened(1)), STATE, DropMarket::closePool);
            DropMarket market = closed(Markets.fullAndOpen());
            market.undo();
            Check.due("open again", 0, market.closePool());
        });
    }

    private static DropMarket closed(DropMarket market) {
        market.closePool();
        return market;
    }

    /** Order 0 buys and order 1 sells in an open pool. */
    private static DropMarket meeting(int buyingPrice, int sellingPrice, int quantity) {
        DropMarket market = Markets.opened(1);
        market.placeBuy(0, buyingPrice, quantity);
        market.placeSell(0, sellingPrice, quantity);
        return market;
    }

    /** A full book whose orders all meet, with the greatest quantities. */
    private static DropMarket greatestPool() {
        DropMarket market = Markets.opened(2);
        for (int i = 0; i < 10; i++) {
            market.placeBuy(0, 10, 50);
            market.placeSell(1, 10, 50);
        }
        return market;
    }

    private static void latestPrice() {
        Sentence.holds(34, "Returns the price of the latest trade.", () -> {
            DropMarket market = Markets.rich(1);
            market.placeSell(0, 40, 1);
            market.placeSell(0, 42, 1);
            market.placeSell(0, 41, 1);
            market.takeBuy(0, 50, 3);
            Check.due("the last of three", 42, market.lastPrice());
            market.takeBuy(0, 50, 3);
            Check.due("none is new", 42, market.lastPrice());
            Markets.traded(market, 41, 1);
            Check.due("a lower one is new", 41, market.lastPrice());
            market.undo();
            Check.due("undone", 42, market.lastPrice());
        });
        Sentence.holds(34, "Returns the price.", () -> {
            Check.due("the least", 1, Markets.traded(Markets.rich(1), 1, 1).lastPrice());
            Check.due("the greatest", 99, Markets.traded(Markets.rich(1), 99, 1).lastPrice());
            Check.due("of a pool", 30, closed(meeting(50, 30, 2)).lastPrice());
        });
        Sentence.holds(34, "Throws `NoSuchElementException` if there was no trade",
                () -> withoutTrades(NONE, DropMarket::lastPrice));
    }

    private static void withoutTrades(Class<? extends Exception> want, Function<DropMarket, ?> asked) {
        Trace.refused("a new market", DropMarket::new, want, asked);
        Trace.refused("a full book", Markets::full, want, asked);
        Trace.refused("a pool that has not closed", () -> meeting(40, 40, 1), want, asked);
        Trace.refused("a pool without volume", () -> closed(Markets.fullAndOpen()), want, asked);
        Trace.refused("an undone trade", () -> {
            DropMarket market = Markets.traded(Markets.rich(1), 40, 1);
            market.undo();
            return market;
        }, want, asked);
        Trace.refused("a trade behind a snapshot", () -> {
            DropMarket market = Markets.rich(1);
            market.save();
            Markets.traded(market, 40, 1).restore();
            return market;
        }, want, asked);
    }

    private static void tradesSoFar() {
        Sentence.holds(35, "Returns the number of trades so far.", () -> {
            DropMarket market = Markets.full();
            Check.due("none", 0, market.tradeCount());
            market.takeBuy(2, 40, 50);
            Check.due("one for each order", 10, market.tradeCount());
            market.takeSell(2, 1, 50);
            Check.due("and for each of the other side", 20, market.tradeCount());
            market.takeSell(2, 1, 50);
            Check.due("none in an empty book", 20, market.tradeCount());
            market.undo();
            market.undo();
            Check.due("undone", 10, market.tradeCount());
        });
        Sentence.holds(35, "Returns the number of trades.",
                () -> Check.due("of a pool", 10, closed(greatestPool()).tradeCount()));
        Sentence.holds(36, "Returns the quantity of all trades so far.", () -> {
            DropMarket market = Markets.rich(1);
            Check.due("none", 0, market.tradedQuantity());
            Markets.traded(market, 40, 1);
            Check.due("the least", 1, market.tradedQuantity());
            Markets.traded(market, 40, 50);
            Check.due("one more", 51, market.tradedQuantity());
            market.undo();
            Check.due("undone", 1, market.tradedQuantity());
        });
        Sentence.holds(36, "Returns the quantity.",
                () -> Check.due("of a pool", 500, closed(greatestPool()).tradedQuantity()));
    }

    private static void turnover() {
        Sentence.holds(37, "Returns the money that was paid in all trades so far.", () -> {
            DropMarket market = Markets.rich(1);
            Check.due("none", 0L, market.turnover());
            Markets.traded(market, 1, 1);
            Check.due("the least", 1L, market.turnover());
            Markets.traded(market, 99, 50);
            Check.due("the greatest that one trade adds", 4951L, market.turnover());
            for (int round = 0; round < 240; round++) {
                Markets.traded(market, 99, 50);
            }
            Check.due("many", 1192951L, market.turnover());
            market.undo();
            Check.due("undone", 1188001L, market.turnover());
        });
        Sentence.holds(37, "Returns the money.", () -> {
            Check.due("of a pool, at its price", 5000L, closed(greatestPool()).turnover());
            Check.due("not at the price of an order", 60L, closed(meeting(50, 30, 2)).turnover());
        });
    }

    private static void meanPrice() {
        Sentence.holds(38, "Returns the mean price of all drops that were traded.", () -> {
            Check.due("the least", 1.0, Markets.traded(Markets.rich(1), 1, 50).meanPrice());
            Check.due("the greatest", 99.0, Markets.traded(Markets.rich(1), 99, 50).meanPrice());
            DropMarket market = Markets.traded(Markets.traded(Markets.rich(1), 1, 1), 99, 49);
            Check.due("drops count, not trades", 4852.0 / 50.0, market.meanPrice());
        });
        Sentence.holds(38, "Returns the turnover divided by the traded quantity, both converted to double.", () -> {
            DropMarket market = Markets.traded(Markets.traded(Markets.rich(1), 1, 2), 2, 1);
            Check.due("a third", 4.0 / 3.0, market.meanPrice());
        });
        Sentence.holds(38, "Throws `ArithmeticException` if there was no trade",
                () -> withoutTrades(ArithmeticException.class, DropMarket::meanPrice));
    }

    private static void openness() {
        Sentence.holds(40, "Returns whether the pool is open.", () -> {
            DropMarket market = new DropMarket();
            Check.due("at first", false, market.isPoolOpen());
            market.openPool();
            Check.due("opened", true, market.isPoolOpen());
            market.closePool();
            Check.due("closed", false, market.isPoolOpen());
            market.undo();
            Check.due("closing undone", true, market.isPoolOpen());
            market.undo();
            Check.due("opening undone", false, market.isPoolOpen());
        });
        Sentence.holds(40, "Returns whether it is open.", () -> {
            DropMarket market = Markets.opened(0);
            Check.answer(market::openPool);
            Check.due("a refused call leaves it open", true, market.isPoolOpen());
        });
    }

    private static void poolPrices() {
        Sentence.holds(41, "Returns the price that the pool would have with the present orders, whether it is open or "
                + "not, by trying all prices.", () -> pricesOfPools(DropMarket::poolPrice));
        Sentence.holds(41, "Returns the price.", () -> edgesOfPrices(DropMarket::poolPrice));
        Sentence.holds(41, NO_VOLUME, () -> withoutVolume(DropMarket::poolPrice));
        Sentence.holds(42, "Returns the same as poolPrice, from sums that are carried on from price to price.",
                () -> pricesOfPools(DropMarket::poolPriceBySums));
        Sentence.holds(42, "Returns the price.", () -> edgesOfPrices(DropMarket::poolPriceBySums));
        Sentence.holds(42, NO_VOLUME, () -> withoutVolume(DropMarket::poolPriceBySums));
    }

    private static void pricesOfPools(Function<DropMarket, Integer> asked) {
        DropMarket market = meeting(60, 40, 5);
        Check.due("of two", 40, asked.apply(market));
        market.placeBuy(0, 55, 5);
        Check.due("with a surplus up to 55", 56, asked.apply(market));
        market.placeSell(0, 57, 5);
        Check.due("at a greater price it would be less", 56, asked.apply(market));
        market.placeSell(0, 50, 5);
        Check.due("with more volume", 50, asked.apply(market));
        market.closePool();
        Check.due("it is the price that the pool has", 50, market.lastPrice());
        market.undo();
        Check.due("the same orders again", 50, asked.apply(market));
        DropMarket closed = Markets.full();
        Check.throwing("a closed pool, in which no orders meet", NONE, () -> asked.apply(closed));
    }

    private static void edgesOfPrices(Function<DropMarket, Integer> asked) {
        for (int price : new int[] {1, 2, 50, 98, 99}) {
            Check.due("at " + price, price, asked.apply(meeting(price, price, 1)));
        }
        Check.due("the lowest of all", 1, asked.apply(meeting(99, 1, 50)));
        DropMarket market = meeting(98, 1, 5);
        market.placeBuy(0, 99, 5);
        Check.due("the last with the least surplus", 99, asked.apply(market));
    }

    private static void withoutVolume(Function<DropMarket, Integer> asked) {
        Trace.refused("a new market", DropMarket::new, NONE, asked);
        Trace.refused("an empty pool", () -> Markets.opened(1), NONE, asked);
        Trace.refused("a full pool", Markets::fullAndOpen, NONE, asked);
        Trace.refused("prices side by side", () -> meeting(49, 50, 5), NONE, asked);
        Trace.refused("prices far apart", () -> meeting(1, 99, 5), NONE, asked);
        Trace.refused("buying orders alone", () -> oneSided(Way.BUY), NONE, asked);
        Trace.refused("selling orders alone", () -> oneSided(Way.SELL), NONE, asked);
        Trace.refused("the pool has closed", () -> closed(meeting(40, 40, 1)), NONE, asked);
    }

    private static DropMarket oneSided(Way side) {
        DropMarket market = Markets.opened(1);
        side.give(market, 0, 1, 1);
        side.give(market, 0, 99, 1);
        return market;
    }

    private static void volumes() {
        Sentence.holds(43, "Returns the volume at a price.", () -> {
            DropMarket market = meeting(60, 40, 5);
            market.placeBuy(0, 61, 2);
            market.placeSell(0, 39, 1);
            int[][] due = {{38, 0}, {39, 1}, {40, 6}, {60, 6}, {61, 2}, {62, 0}};
            for (int[] pair : due) {
                Check.due("at " + pair[0], pair[1], market.volumeAt(pair[0]));
            }
        });
        Sentence.holds(43, "`price`: the price, 1 to 99", () -> {
            Check.due("at 1", 5, meeting(1, 1, 5).volumeAt(1));
            Check.due("beside 1", 0, meeting(1, 1, 5).volumeAt(2));
            Check.due("at 99", 5, meeting(99, 99, 5).volumeAt(99));
            Check.due("beside 99", 0, meeting(99, 99, 5).volumeAt(98));
            Check.due("at 1 of all", 5, meeting(99, 1, 5).volumeAt(1));
            Check.due("at 99 of all", 5, meeting(99, 1, 5).volumeAt(99));
        });
        Sentence.holds(43, "Returns the volume.", () -> {
            Check.due("of a new market", 0, new DropMarket().volumeAt(50));
            Check.due("of one side", 0, oneSided(Way.BUY).volumeAt(1));
            Check.due("of the other side", 0, oneSided(Way.SELL).volumeAt(99));
            Check.due("in a closed pool", 0, Markets.full().volumeAt(25));
            Check.due("the greatest", 500, greatestPool().volumeAt(10));
        });
        Sentence.holds(43, "Throws `IllegalArgumentException` if the price is out of range",
                () -> BookSentences.wrongPrices(DropMarket::volumeAt));
    }

    private static void time() {
        Sentence.holds(44, "Returns the time.", () -> {
            DropMarket market = new DropMarket();
            Check.due("at first", 0, market.time());
            market.pass(1);
            Check.due("the least step", 1, market.time());
            market.pass(60);
            Check.due("the greatest step", 61, market.time());
            market.undo();
            Check.due("undone", 1, market.time());
        });
        Sentence.holds(44, "Returns the number of minutes that have passed.", () -> {
            DropMarket market = new DropMarket();
            for (int hour = 0; hour < 511; hour++) {
                market.pass(60);
            }
            Check.due("as many as an object's calls can let pass", 30660, market.time());
        });
    }
}
