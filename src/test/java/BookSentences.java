import java.util.NoSuchElementException;
import java.util.function.BiFunction;
import java.util.function.Function;

/** Promises 21 to 33 and 39, sentence by sentence. */
final class BookSentences {
    private static final Class<NoSuchElementException> NONE = NoSuchElementException.class;
    private static final String NO_ORDER = "Throws `NoSuchElementException` if there is no such order";
    private static final String ORDER = "`order`: number of the order";
    private static final String PRICE = "`price`: the price, 1 to 99";
    private static final String RETURNS_ORDER = "Returns the number of the order.";
    private static final String ONE_SIDE = "Throws `NoSuchElementException` if one side has no order";

    private BookSentences() {
    }

    static void test() {
        counting();
        positions();
        stallsAndSides();
        pricesAndQuantities();
        minutes();
        bestOrders();
        spreads();
        quantitiesAtPrices();
        shares();
    }

    private static void counting() {
        Sentence.holds(21, "Returns the number of orders in the book.", () -> {
            Check.due("of a new market", 0, new DropMarket().orderCount());
            DropMarket market = Markets.full();
            Check.due("of a full book", 20, market.orderCount());
            market.takeBuy(2, 30, 1);
            Check.due("one is used up", 19, market.orderCount());
            market.placeBuy(2, 31, 2);
            Check.due("one is used up, and one's rest is new", 19, market.orderCount());
            market.openPool();
            Check.due("in an open pool", 19, market.orderCount());
            market.closePool();
            Check.due("after the pool", 0, market.orderCount());
        });
        Sentence.holds(21, "Returns the number of orders.",
                () -> Check.due("of one", 1, sideOnly(Way.SELL, 1).orderCount()));
    }

    private static void positions() {
        Sentence.holds(22, "Returns an order of the book, in the order of numbers.", () -> {
            DropMarket market = Markets.full();
            for (int order : new int[] {0, 7, 8, 19}) {
                market.cancel(order);
            }
            market.placeSell(0, 50, 1);
            market.placeBuy(0, 1, 1);
            int[] due = {1, 2, 3, 4, 5, 6, 9, 10, 11, 12, 13, 14, 15, 16, 17, 18, 20, 21};
            for (int position = 0; position < due.length; position++) {
                Check.due("position " + position, due[position], market.orderAt(position));
            }
        });
        Sentence.holds(22, "`position`: the position, from 0", () -> {
            Check.due("the first", 0, Markets.full().orderAt(0));
            Check.due("the last", 19, Markets.full().orderAt(19));
        });
        Sentence.holds(22, RETURNS_ORDER, () -> {
            DropMarket market = Markets.full();
            market.cancel(0);
            Check.due("the number, not the position", 1, market.orderAt(0));
        });
        Sentence.holds(22, "Throws `IndexOutOfBoundsException` if there is no such position", () -> {
            for (int orders : new int[] {0, 1, 19, 20}) {
                noPosition(orders, -1);
                noPosition(orders, orders);
                noPosition(orders, 20);
            }
            for (int far : Markets.FAR_NUMBERS) {
                noPosition(20, far);
            }
        });
    }

    private static void noPosition(int orders, int position) {
        Trace.refused("position " + position + " of " + orders, () -> withOrders(orders),
                IndexOutOfBoundsException.class, market -> market.orderAt(position));
    }

    private static DropMarket withOrders(int orders) {
        DropMarket market = Markets.full();
        for (int order = 19; order >= orders; order--) {
            market.cancel(order);
        }
        return market;
    }

    private static void stallsAndSides() {
        Sentence.holds(23, "Returns the stall of an order.", () -> {
            DropMarket market = Markets.rich(6);
            for (int order = 0; order < 6; order++) {
                market.placeBuy(5 - order, 1, 1);
                Check.due("order " + order, 5 - order, market.stallOf(order));
            }
        });
        Sentence.holds(23, ORDER, () -> firstAndLast(DropMarket::stallOf, 0, 1));
        Sentence.holds(23, "Returns the number of the stall.", () -> firstAndLast(DropMarket::stallOf, 0, 1));
        Sentence.holds(23, NO_ORDER, () -> MissingOrders.refused(DropMarket::stallOf));
        Sentence.holds(24, "Returns whether an order buys.", () -> {
            DropMarket market = Markets.full();
            for (int order = 0; order < 20; order++) {
                Check.due("order " + order, order % 2 == 0, market.isBuying(order));
            }
        });
        Sentence.holds(24, ORDER, () -> firstAndLast(DropMarket::isBuying, true, false));
        Sentence.holds(24, "Returns true if it buys, false if it sells.",
                () -> firstAndLast(DropMarket::isBuying, true, false));
        Sentence.holds(24, NO_ORDER, () -> MissingOrders.refused(DropMarket::isBuying));
    }

    private static void firstAndLast(BiFunction<DropMarket, Integer, ?> asked, Object first, Object last) {
        Check.due("the first of a full book", first, asked.apply(Markets.full(), 0));
        Check.due("the last of a full book", last, asked.apply(Markets.full(), 19));
        DropMarket market = Markets.full();
        market.cancel(0);
        Check.due("the last of 19", last, asked.apply(market, 19));
    }

    private static void pricesAndQuantities() {
        Sentence.holds(25, "Returns the price of an order.", () -> {
            DropMarket market = edges();
            Check.due("the least", 1, market.priceOf(0));
            Check.due("the greatest", 99, market.priceOf(1));
        });
        Sentence.holds(25, ORDER, () -> firstAndLast(DropMarket::priceOf, 10, 39));
        Sentence.holds(25, "Returns the price.", () -> {
            DropMarket market = edges();
            market.placeSell(0, 20, 2);
            market.placeBuy(0, 30, 5);
            Check.due("its own one, not that of its trade", 30, market.priceOf(3));
        });
        Sentence.holds(25, NO_ORDER, () -> MissingOrders.refused(DropMarket::priceOf));
        Sentence.holds(26, "Returns the quantity that is left of an order.", () -> {
            DropMarket market = edges();
            Check.due("the greatest", 50, market.quantityOf(1));
            market.takeBuy(0, 99, 49);
            Check.due("the least", 1, market.quantityOf(1));
            market.placeBuy(0, 99, 2);
            Check.due("what is left of a new one", 1, market.quantityOf(3));
        });
        Sentence.holds(26, ORDER, () -> firstAndLast(DropMarket::quantityOf, 1, 1));
        Sentence.holds(26, "Returns the quantity.", () -> Check.due("quantity", 1, edges().quantityOf(0)));
        Sentence.holds(26, NO_ORDER, () -> MissingOrders.refused(DropMarket::quantityOf));
    }

    /** Order 0 buys 1 at 1, and order 1 sells 50 at 99. */
    private static DropMarket edges() {
        DropMarket market = Markets.rich(1);
        market.placeBuy(0, 1, 1);
        market.placeSell(0, 99, 50);
        return market;
    }

    private static void minutes() {
        Sentence.holds(27, "Returns the minutes that are left to an order.", () -> {
            DropMarket market = Markets.rich(1);
            market.placeBuyFor(0, 1, 1, 60);
            Check.due("the greatest", 60, market.minutesLeft(0));
            market.pass(1);
            Check.due("a minute less", 59, market.minutesLeft(0));
            market.pass(58);
            Check.due("the least", 1, market.minutesLeft(0));
        });
        Sentence.holds(27, ORDER, () -> {
            DropMarket market = Markets.full();
            market.cancel(19);
            market.placeSellFor(0, 50, 1, 7);
            Check.due("the last of a full book", 7, market.minutesLeft(20));
            market.cancel(0);
            Check.due("the last of 19", 7, market.minutesLeft(20));
        });
        Sentence.holds(27, "Returns the minutes.", () -> {
            DropMarket market = Markets.rich(1);
            market.placeSellFor(0, 1, 3, 60);
            market.takeBuy(0, 1, 2);
            Check.due("a trade leaves them", 60, market.minutesLeft(0));
        });
        Sentence.holds(27, NO_ORDER, () -> MissingOrders.refused(DropMarket::minutesLeft));
        Sentence.holds(27, "Throws `IllegalStateException` if it does not expire", () -> {
            for (int order : new int[] {0, 1, 18, 19}) {
                Trace.refused("order " + order, Markets::full, IllegalStateException.class,
                        market -> market.minutesLeft(order));
            }
        });
    }

    private static void bestOrders() {
        Sentence.holds(28, "Returns the buying order with the highest priority.", () -> {
            DropMarket market = Markets.full();
            Check.due("the greatest price is the last", 18, market.bestBuy());
            market.cancel(16);
            market.placeBuy(2, 19, 50);
            Check.due("the same price, later", 18, market.bestBuy());
            market.cancel(18);
            Check.due("the later one is left", 20, market.bestBuy());
            Check.due("the only one", 0, edges().bestBuy());
        });
        Sentence.holds(28, RETURNS_ORDER, () -> Check.due("order", 18, Markets.full().bestBuy()));
        Sentence.holds(28, "Throws `NoSuchElementException` if there is no buying order",
                () -> oneSideOnly(DropMarket::bestBuy, Way.SELL));
        Sentence.holds(29, "Returns the selling order with the highest priority.", () -> {
            DropMarket market = Markets.full();
            Check.due("the lowest price is the first", 1, market.bestSell());
            market.cancel(3);
            market.placeSell(2, 30, 50);
            Check.due("the same price, later", 1, market.bestSell());
            market.cancel(1);
            Check.due("the later one is left", 20, market.bestSell());
            Check.due("the only one", 1, edges().bestSell());
        });
        Sentence.holds(29, RETURNS_ORDER, () -> Check.due("order", 1, Markets.full().bestSell()));
        Sentence.holds(29, "Throws `NoSuchElementException` if there is no selling order",
                () -> oneSideOnly(DropMarket::bestSell, Way.BUY));
    }

    /** Refused in an empty book, and with orders of this side alone. */
    private static void oneSideOnly(Function<DropMarket, ?> asked, Way side) {
        Trace.refused("an empty book", DropMarket::new, NONE, asked);
        Trace.refused("one of the other side", () -> sideOnly(side, 1), NONE, asked);
        Trace.refused("20 of the other side", () -> sideOnly(side, 20), NONE, asked);
        Trace.refused("after the pool", () -> {
            DropMarket market = Markets.fullAndOpen();
            market.closePool();
            return market;
        }, NONE, asked);
    }

    private static DropMarket sideOnly(Way side, int orders) {
        DropMarket market = Markets.rich(1);
        for (int order = 0; order < orders; order++) {
            side.give(market, 0, 1 + 5 * order, 1);
        }
        return market;
    }

    private static void spreads() {
        String both = "Returns the spread: the price of the best selling order minus that of the best buying order.";
        Sentence.holds(30, both, () -> closedSpreads(DropMarket::spread));
        Sentence.holds(30, "Returns the spread, which can be negative while the pool is open.",
                () -> openSpreads(DropMarket::spread));
        Sentence.holds(30, ONE_SIDE, () -> oneSided(DropMarket::spread));
        Sentence.holds(31, "Returns the same as spread, from the sums of quantities at all prices.",
                () -> closedSpreads(DropMarket::spreadBySums));
        Sentence.holds(31, "Returns the spread.", () -> openSpreads(DropMarket::spreadBySums));
        Sentence.holds(31, ONE_SIDE, () -> oneSided(DropMarket::spreadBySums));
    }

    private static void closedSpreads(Function<DropMarket, Integer> asked) {
        Check.due("the greatest", 98, asked.apply(edges()));
        Check.due("of a full book", 11, asked.apply(Markets.full()));
        for (int price : new int[] {1, 50, 98}) {
            DropMarket market = Markets.rich(1);
            market.placeBuy(0, price, 1);
            market.placeSell(0, price + 1, 1);
            Check.due("the least in a closed pool", 1, asked.apply(market));
        }
    }

    private static void openSpreads(Function<DropMarket, Integer> asked) {
        for (int price : new int[] {1, 2, 50, 98, 99}) {
            DropMarket market = Markets.opened(1);
            market.placeBuy(0, price, 1);
            market.placeSell(0, price, 1);
            Check.due("of one price", 0, asked.apply(market));
        }
        DropMarket market = Markets.opened(1);
        market.placeBuy(0, 40, 1);
        market.placeSell(0, 39, 1);
        Check.due("the first below 0", -1, asked.apply(market));
        market.placeBuy(0, 99, 1);
        market.placeSell(0, 1, 1);
        Check.due("the least", -98, asked.apply(market));
    }

    private static void oneSided(Function<DropMarket, Integer> asked) {
        oneSideOnly(asked, Way.SELL);
        oneSideOnly(asked, Way.BUY);
    }

    private static void quantitiesAtPrices() {
        Sentence.holds(32, "Returns the quantity of all buying orders with a price.",
                () -> sums(DropMarket::buyingAt, Way.BUY));
        Sentence.holds(32, PRICE, () -> atEdges(DropMarket::buyingAt, Way.BUY));
        Sentence.holds(32, "Returns the sum.", () -> greatestSum(DropMarket::buyingAt, Way.BUY));
        Sentence.holds(32, "Throws `IllegalArgumentException` if the price is out of range",
                () -> wrongPrices(DropMarket::buyingAt));
        Sentence.holds(33, "Returns the quantity of all selling orders with a price.",
                () -> sums(DropMarket::sellingAt, Way.SELL));
        Sentence.holds(33, PRICE, () -> atEdges(DropMarket::sellingAt, Way.SELL));
        Sentence.holds(33, "Returns the sum.", () -> greatestSum(DropMarket::sellingAt, Way.SELL));
        Sentence.holds(33, "Throws `IllegalArgumentException` if the price is out of range",
                () -> wrongPrices(DropMarket::sellingAt));
    }

    private static void sums(BiFunction<DropMarket, Integer, Integer> asked, Way side) {
        DropMarket market = Markets.opened(2);
        Check.due("of an empty book", 0, asked.apply(market, 40));
        side.give(market, 0, 40, 3);
        side.give(market, 1, 40, 4);
        side.give(market, 0, 39, 5);
        side.give(market, 0, 41, 6);
        side.opposite().give(market, 0, 40, 7);
        side.opposite().give(market, 0, 38, 8);
        Check.due("of two", 7, asked.apply(market, 40));
        Check.due("a lower price", 5, asked.apply(market, 39));
        Check.due("a greater price", 6, asked.apply(market, 41));
        Check.due("of the other side", 0, asked.apply(market, 38));
        market.cancel(0);
        Check.due("a cancelled one does not count", 4, asked.apply(market, 40));
    }

    private static void atEdges(BiFunction<DropMarket, Integer, Integer> asked, Way side) {
        for (int price : new int[] {1, 2, 98, 99}) {
            DropMarket market = Markets.rich(1);
            side.give(market, 0, price, 7);
            for (int other : new int[] {1, 2, 98, 99}) {
                Check.due("at " + other, other == price ? 7 : 0, asked.apply(market, other));
            }
        }
    }

    private static void greatestSum(BiFunction<DropMarket, Integer, Integer> asked, Way side) {
        DropMarket market = Markets.rich(2);
        for (int order = 0; order < 20; order++) {
            side.give(market, order % 2, side.buys() ? 1 : 99, side.buys() || order < 19 ? 50 : 49);
        }
        Check.due("of a full book", side.buys() ? 1000 : 999, asked.apply(market, side.buys() ? 1 : 99));
    }

    static void wrongPrices(BiFunction<DropMarket, Integer, Integer> asked) {
        for (int price : new int[] {0, -1, 100}) {
            Trace.refused("at " + price, Markets::full, IllegalArgumentException.class,
                    market -> asked.apply(market, price));
        }
        for (int far : Markets.FAR_NUMBERS) {
            Trace.refused("at " + far, DropMarket::new, IllegalArgumentException.class,
                    market -> asked.apply(market, far));
        }
    }

    private static void shares() {
        Sentence.holds(39, "Returns the share of the buying orders in the book.", () -> {
            Check.due("of buying orders alone", 1f, sideOnly(Way.BUY, 20).buyingShare());
            Check.due("of selling orders alone", 0f, sideOnly(Way.SELL, 20).buyingShare());
            Check.due("of one of each", 0.5f, edges().buyingShare());
            Check.due("in an open pool", 0.5f, Markets.fullAndOpen().buyingShare());
        });
        Sentence.holds(39, "Returns their number divided by the number of all orders, both converted to float.", () -> {
            DropMarket market = sideOnly(Way.BUY, 1);
            for (int sells = 1; sells < 20; sells++) {
                market.placeSell(0, 99, 1 + sells);
                Check.due("orders count, not quantities", 1f / (1 + sells), market.buyingShare());
            }
        });
        Sentence.holds(39, "Throws `ArithmeticException` if there are no orders", () -> {
            Class<ArithmeticException> none = ArithmeticException.class;
            Trace.refused("a new market", DropMarket::new, none, DropMarket::buyingShare);
            Trace.refused("stalls without orders", () -> Markets.rich(6), none, DropMarket::buyingShare);
            Trace.refused("the last one is cancelled", () -> withOrders(0), none, DropMarket::buyingShare);
        });
    }
}
