import java.util.NoSuchElementException;

/** Promises 3 to 10 and 44: placing, taking and cancelling orders, and minutes that pass. */
public final class OrdersTest {
    private static final Class<IllegalArgumentException> RANGE = IllegalArgumentException.class;
    private static final Class<IndexOutOfBoundsException> NO_STALL = IndexOutOfBoundsException.class;
    private static final Class<IllegalStateException> STATE = IllegalStateException.class;
    private static final Class<UnsupportedOperationException> SHORT = UnsupportedOperationException.class;
    private static final Class<NoSuchElementException> NO_ORDER = NoSuchElementException.class;

    public static void main(String[] args) {
        for (Way way : Way.values()) {
            wrongNumbers(way);
            edgesOfNumbers(way);
            justEnough(way);
            fullBook(way);
            openPool(way);
            numbersOfOrders(way);
        }
        wrongMinutes();
        tradingByPriority();
        tradingAtTheBooksPrice();
        tradingWithTheWholeBook();
        restOfAnOrder();
        tradingWithItself();
        ownPriceIsChecked();
        cancelling();
        passing();
        passingUntilNothingIsLeft();
        Check.end("OrdersTest");
    }

    private static DropMarket rich() {
        DropMarket market = new DropMarket();
        for (int stall = 0; stall < 3; stall++) {
            market.addStall(9999, 999);
        }
        return market;
    }

    private static void wrongNumbers(Way way) {
        DropMarket market = rich();
        Check.unchanged(way.label, market, () -> {
            for (int stall : new int[] {-1, 3, 6, Integer.MIN_VALUE, Integer.MAX_VALUE}) {
                Check.throwing(way.label + " stall " + stall, NO_STALL, () -> way.give(market, stall, 1, 1));
                Check.throwing(way.label + " stall before range", NO_STALL, () -> way.give(market, stall, 0, 0));
            }
            for (int price : new int[] {0, -1, 100, Integer.MIN_VALUE, Integer.MAX_VALUE}) {
                Check.throwing(way.label + " price " + price, RANGE, () -> way.give(market, 0, price, 1));
            }
            for (int quantity : new int[] {0, -1, 51, Integer.MIN_VALUE, Integer.MAX_VALUE}) {
                Check.throwing(way.label + " quantity " + quantity, RANGE, () -> way.give(market, 0, 1, quantity));
            }
        });
        DropMarket empty = new DropMarket();
        Check.refused(way.label + " without stalls", empty, NO_STALL, () -> way.give(empty, 0, 1, 1));
    }

    private static void edgesOfNumbers(Way way) {
        DropMarket market = rich();
        int[][] edges = {{1, 1}, {99, 50}, {1, 50}, {99, 1}};
        for (int i = 0; i < edges.length; i++) {
            int answer = way.give(market, 0, edges[i][0], edges[i][1]);
            Check.due(way.label + " edge " + i, way.takes() ? 0 : i, answer);
        }
    }

    private static void justEnough(Way way) {
        DropMarket market = new DropMarket();
        market.addStall(129, 12);
        market.addStall(130, 13);
        Check.refused(way.label + " not enough", market, SHORT, () -> way.give(market, 0, 10, 13));
        Check.due(way.label + " just enough", 0, way.give(market, 1, 10, 13));
        if (!way.takes()) {
            Check.refused(way.label + " all is bound", market, SHORT, () -> way.give(market, 1, 1, 1));
            Check.due(way.label + " frees again", 13, market.cancel(0));
        }
        market.addStall(0, 0);
        Check.refused(way.label + " nothing at all", market, SHORT, () -> way.give(market, 2, 1, 1));
        Check.refused(way.label + " range before enough", market, RANGE, () -> way.give(market, 2, 99, 51));
    }

    private static void fillBook(DropMarket market) {
        for (int i = 0; i < 10; i++) {
            market.placeBuy(0, 10 + i, 1);
            market.placeSell(1, 30 + i, 1);
        }
    }

    private static void fullBook(Way way) {
        DropMarket market = rich();
        fillBook(market);
        market.addStall(0, 0);
        int price = way.buys() ? 30 : 19;
        if (way.takes()) {
            Check.due(way.label + " with 20 orders", 1, way.give(market, 2, price, 1));
            Check.due(way.label + " with 19 orders", 19, market.orderCount());
            return;
        }
        Check.unchanged(way.label, market, () -> {
            Check.throwing(way.label + " a 21st that would trade", STATE, () -> way.give(market, 2, price, 1));
            Check.throwing(way.label + " a 21st", STATE, () -> way.give(market, 2, 25, 1));
            Check.throwing(way.label + " full before short", STATE, () -> way.give(market, 3, 25, 1));
            Check.throwing(way.label + " range before full", RANGE, () -> way.give(market, 3, 100, 1));
            Check.throwing(way.label + " stall before full", NO_STALL, () -> way.give(market, 4, 100, 1));
        });
        market.cancel(0);
        Check.due(way.label + " the 20th", 20, way.give(market, 2, 25, 1));
        Check.due(way.label + " makes 20 orders", 20, market.orderCount());
    }

    private static void openPool(Way way) {
        DropMarket market = rich();
        market.addStall(0, 0);
        market.placeBuy(0, 40, 5);
        market.placeSell(1, 41, 5);
        market.openPool();
        int price = way.buys() ? 99 : 1;
        if (way.takes()) {
            Check.unchanged(way.label, market, () -> {
                Check.throwing(way.label + " while the pool is open", STATE, () -> way.give(market, 2, price, 1));
                Check.throwing(way.label + " open before short", STATE, () -> way.give(market, 3, price, 1));
                Check.throwing(way.label + " range before open", RANGE, () -> way.give(market, 3, 0, 1));
                Check.throwing(way.label + " stall before open", NO_STALL, () -> way.give(market, 4, 0, 1));
            });
            return;
        }
        Check.due(way.label + " while the pool is open", 2, way.give(market, 2, price, 5));
        Check.due(way.label + " does not trade in the pool", 0, market.tradeCount());
        Check.due(way.label + " enters the book", 3, market.orderCount());
        Check.due(way.label + " keeps its quantity", 5, market.quantityOf(2));
        Check.refused(way.label + " short in the pool", market, SHORT, () -> way.give(market, 3, 1, 1));
    }

    private static void numbersOfOrders(Way way) {
        DropMarket market = rich();
        Check.due("first number", 0, market.placeBuy(0, 5, 1));
        way.give(market, 2, 50, 2);
        Check.due(way.label + " takes a number", 2, market.placeSell(0, 60, 1));
        market.cancel(2);
        Check.due("no number is given again", 3, market.placeSell(0, 60, 1));
        if (!way.takes()) {
            Check.due(way.label + " stall", 2, market.stallOf(1));
            Check.due(way.label + " side", way.buys(), market.isBuying(1));
            Check.due(way.label + " price", 50, market.priceOf(1));
            Check.due(way.label + " quantity", 2, market.quantityOf(1));
            boolean lasts = way == Way.BUY || way == Way.SELL;
            String minutes = lasts ? "throws IllegalStateException" : way == Way.BUY_FOR ? "60" : "1";
            Check.due(way.label + " minutes", minutes, Check.answer(() -> market.minutesLeft(1)));
        } else {
            Check.due(way.label + " leaves nothing in the book", 2, market.orderCount());
        }
    }

    private static void wrongMinutes() {
        DropMarket market = rich();
        market.addStall(0, 0);
        Check.unchanged("P5 and P6", market, () -> {
            for (int minutes : new int[] {0, -1, 61, Integer.MIN_VALUE, Integer.MAX_VALUE}) {
                Check.throwing("P5 minutes " + minutes, RANGE, () -> market.placeBuyFor(0, 1, 1, minutes));
                Check.throwing("P6 minutes " + minutes, RANGE, () -> market.placeSellFor(0, 1, 1, minutes));
                Check.throwing("P5 range before short", RANGE, () -> market.placeBuyFor(3, 1, 1, minutes));
                Check.throwing("P6 range before short", RANGE, () -> market.placeSellFor(3, 1, 1, minutes));
                Check.throwing("P5 stall before range", NO_STALL, () -> market.placeBuyFor(4, 1, 1, minutes));
                Check.throwing("P6 stall before range", NO_STALL, () -> market.placeSellFor(4, 1, 1, minutes));
            }
        });
        DropMarket full = rich();
        fillBook(full);
        Check.unchanged("P5 and P6 in a full book", full, () -> {
            Check.throwing("P5 range before full", RANGE, () -> full.placeBuyFor(0, 1, 1, 0));
            Check.throwing("P6 range before full", RANGE, () -> full.placeSellFor(0, 1, 1, 0));
        });
    }

    private static void tradingByPriority() {
        DropMarket market = rich();
        market.placeSell(1, 25, 3);
        market.placeSell(1, 24, 5);
        market.placeSell(2, 24, 2);
        Check.due("P3 number of an order that trades", 3, market.placeBuy(0, 25, 8));
        Check.due("lower price first", "throws NoSuchElementException", Check.answer(() -> market.quantityOf(1)));
        Check.due("then the lower number", "throws NoSuchElementException", Check.answer(() -> market.quantityOf(2)));
        Check.due("then the higher price", 2, market.quantityOf(0));
        Check.due("P3 nothing is left", 1, market.orderCount());
        Check.due("three trades", 3, market.tradeCount());
        Check.due("paid", 5L * 24 + 2 * 24 + 25, market.turnover());
        Check.due("the last price", 25, market.lastPrice());
        DropMarket mirror = rich();
        mirror.placeBuy(1, 24, 3);
        mirror.placeBuy(1, 25, 5);
        mirror.placeBuy(2, 25, 2);
        Check.due("P4 number of an order that trades", 3, mirror.placeSell(0, 24, 6));
        Check.due("the lower number is used up", 2, mirror.orderAt(1));
        Check.due("the higher number is in part", 1, mirror.quantityOf(2));
        Check.due("the lower price waits", 3, mirror.quantityOf(0));
        Check.due("paid to the seller", 9999 + 6 * 25, mirror.moneyOf(0));
        Check.due("drops of the second buyer", 1000, mirror.dropsOf(2));
    }

    private static void tradingAtTheBooksPrice() {
        DropMarket market = rich();
        market.placeSell(1, 20, 4);
        market.placeBuy(0, 99, 4);
        Check.due("P3 trades at the price in the book", 20, market.lastPrice());
        Check.due("P3 money", 9999 - 80, market.moneyOf(0));
        market.placeBuy(1, 30, 4);
        market.placeSell(0, 1, 4);
        Check.due("P4 trades at the price in the book", 30, market.lastPrice());
        market.placeSell(1, 31, 4);
        market.placeBuy(0, 30, 1);
        market.placeSell(1, 32, 1);
        Check.due("prices that do not meet", 2, market.tradeCount());
        market.placeBuy(2, 31, 1);
        Check.due("P3 an equal price meets", 3, market.tradeCount());
        market.placeSell(2, 30, 1);
        Check.due("P4 an equal price meets", 4, market.tradeCount());
    }

    private static void tradingWithTheWholeBook() {
        DropMarket market = rich();
        for (int i = 0; i < 20; i++) {
            market.placeSell(0, 60 - i, 1);
        }
        Check.due("P7 takes all 20 orders", 20, market.takeBuy(1, 60, 50));
        Check.due("P21 none is left", 0, market.orderCount());
        for (int i = 0; i < 20; i++) {
            market.placeBuy(0, 40 + i, 1);
        }
        market.cancel(21);
        Check.due("P22 the last of 19", 40, market.orderAt(18));
        Check.due("P25 keeps its price", 59, market.priceOf(40));
        Check.due("P4 trades with 19 orders", 41, market.placeSell(1, 40, 20));
        Check.due("P4 and leaves one", 1, market.quantityOf(41));
    }

    private static void restOfAnOrder() {
        DropMarket market = rich();
        market.placeSell(1, 20, 4);
        Check.due("P7 takes what there is", 4, market.takeBuy(0, 20, 9));
        Check.due("P7 drops the rest", 0, market.orderCount());
        Check.due("P7 takes nothing", 0, market.takeBuy(0, 20, 9));
        market.placeBuy(1, 20, 4);
        Check.due("P8 takes nothing below its price", 0, market.takeSell(0, 21, 9));
        Check.due("P8 takes what there is", 4, market.takeSell(0, 20, 9));
        Check.due("P8 drops the rest", 0, market.orderCount());
        market.placeSell(1, 20, 4);
        Check.due("P7 takes a part", 3, market.takeBuy(0, 20, 3));
        Check.due("P7 leaves the other part", 1, market.quantityOf(market.orderAt(0)));
        int order = market.placeBuyFor(0, 22, 6, 9);
        Check.due("P5 the rest enters the book", 5, market.quantityOf(order));
        Check.due("P5 the rest expires", 9, market.minutesLeft(order));
        Check.due("P5 the rest has its own price", 22, market.priceOf(order));
        order = market.placeSellFor(1, 22, 6, 8);
        Check.due("P6 the rest enters the book", 1, market.quantityOf(order));
        Check.due("P6 the rest expires", 8, market.minutesLeft(order));
    }

    private static void tradingWithItself() {
        DropMarket market = rich();
        market.placeSell(0, 30, 5);
        market.placeBuy(0, 35, 2);
        Check.due("a trade with itself counts", 1, market.tradeCount());
        Check.due("its quantity counts", 2, market.tradedQuantity());
        Check.due("its money counts", 60L, market.turnover());
        Check.due("its money stays", 9999, market.moneyOf(0));
        Check.due("its drops stay", 999, market.dropsOf(0));
    }

    private static void ownPriceIsChecked() {
        DropMarket market = new DropMarket();
        market.addStall(100, 0);
        market.addStall(0, 100);
        market.placeSell(1, 10, 10);
        Check.unchanged("at its own price", market, () -> {
            Check.throwing("P3 at its own price", SHORT, () -> market.placeBuy(0, 11, 10));
            Check.throwing("P5 at its own price", SHORT, () -> market.placeBuyFor(0, 11, 10, 1));
            Check.throwing("P7 at its own price", SHORT, () -> market.takeBuy(0, 11, 10));
        });
        Check.due("P7 at a price it can pay", 10, market.takeBuy(0, 10, 10));
    }

    private static void cancelling() {
        DropMarket market = rich();
        Check.refused("P9 no order", market, NO_ORDER, () -> market.cancel(0));
        for (int i = 0; i < 4; i++) {
            market.placeSell(1, 50 + i, 5 + i);
        }
        market.takeBuy(0, 50, 2);
        Check.due("P9 what was left", 3, market.cancel(0));
        Check.due("P9 an order in the middle", 7, market.cancel(2));
        Check.due("P9 the others stay", 1, market.orderAt(0));
        Check.due("P9 the others stay", 3, market.orderAt(1));
        Check.due("P9 the others keep their quantity", 8, market.quantityOf(3));
        Check.unchanged("P9 cancel", market, () -> {
            for (int order : new int[] {0, 2, 4, 5, -1, Integer.MIN_VALUE, Integer.MAX_VALUE}) {
                Check.throwing("P9 cancel " + order, NO_ORDER, () -> market.cancel(order));
            }
        });
        market.openPool();
        Check.due("P9 while the pool is open", 6, market.cancel(1));
        Check.due("P9 frees the drops", 999 - 2 - 8, market.freeDropsOf(1));
        DropMarket cleared = rich();
        Check.refused("P9 an order 0 that was never given", cleared, NO_ORDER, () -> cleared.cancel(0));
    }

    private static void passing() {
        DropMarket market = rich();
        Check.unchanged("P10 pass", market, () -> {
            for (int minutes : new int[] {0, -1, 61, Integer.MIN_VALUE, Integer.MAX_VALUE}) {
                Check.throwing("P10 pass " + minutes, RANGE, () -> market.pass(minutes));
            }
        });
        Check.due("P10 without orders", 0, market.pass(60));
        Check.due("P44 time", 60, market.time());
        Check.due("P10 one minute", 0, market.pass(1));
        Check.due("P44 time", 61, market.time());
    }

    private static void passingUntilNothingIsLeft() {
        DropMarket market = rich();
        market.placeBuyFor(0, 10, 1, 3);
        market.placeBuy(0, 11, 1);
        market.placeSellFor(1, 30, 1, 4);
        market.placeSellFor(1, 31, 1, 60);
        market.placeBuyFor(2, 12, 1, 3);
        Check.due("P10 none yet", 0, market.pass(2));
        Check.due("P27 one is left", 1, market.minutesLeft(0));
        Check.due("P27 two are left", 2, market.minutesLeft(2));
        Check.due("P10 two expire", 2, market.pass(1));
        Check.due("P10 three stay", 3, market.orderCount());
        Check.due("P10 frees the money", 9999, market.freeMoneyOf(2));
        market.openPool();
        Check.due("P10 one expires in the pool", 1, market.pass(56));
        Check.due("P27 one is left", 1, market.minutesLeft(3));
        Check.due("P10 more than is left", 1, market.pass(60));
        Check.due("P10 what lasts stays", 1, market.orderAt(0));
        Check.due("P44 time", 119, market.time());
        Check.due("a number is not given again", 5, market.placeBuy(0, 1, 1));
    }
}
