import java.util.NoSuchElementException;

/** Promises 11, 12, 34 to 38 and 40 to 43: trades so far, and the pool with its one price. */
public final class PoolTest {
    private static final Class<NoSuchElementException> NONE = NoSuchElementException.class;
    private static final Class<IllegalStateException> STATE = IllegalStateException.class;

    public static void main(String[] args) {
        openingAndClosing();
        greatestVolume();
        smallestSurplus();
        lowestPrice();
        edgesOfPrices();
        tradesOfThePool();
        oneTradeEndsWithinOrders();
        poolWithManyTrades();
        emptyPools();
        volumes();
        noTrades();
        sumsOfTrades();
        meanOfManyDrops();
        Check.end("PoolTest");
    }

    private static DropMarket rich() {
        DropMarket market = new DropMarket();
        for (int stall = 0; stall < 3; stall++) {
            market.addStall(9999, 999);
        }
        return market;
    }

    private static void poolPrices(String what, DropMarket market, int price) {
        Check.due("P41 " + what, price, market.poolPrice());
        Check.due("P42 " + what, price, market.poolPriceBySums());
        Check.due("P48 " + what, true, market.isConsistent());
    }

    private static void noPoolPrice(String what, DropMarket market) {
        Check.throwing("P41 " + what, NONE, market::poolPrice);
        Check.throwing("P42 " + what, NONE, market::poolPriceBySums);
        Check.due("P48 " + what, true, market.isConsistent());
    }

    private static void openingAndClosing() {
        DropMarket market = rich();
        Check.refused("P12 closed at first", market, STATE, market::closePool);
        market.placeBuy(0, 10, 1);
        market.placeSell(0, 20, 1);
        Check.due("P11 number of orders", 2, market.openPool());
        Check.due("P40 open", true, market.isPoolOpen());
        Check.refused("P11 open", market, STATE, market::openPool);
        Check.due("P12 nothing to trade", 0, market.closePool());
        Check.due("P40 closed", false, market.isPoolOpen());
        Check.refused("P12 closed", market, STATE, market::closePool);
        Check.due("P11 again", 0, market.openPool());
    }

    private static void greatestVolume() {
        DropMarket market = rich();
        market.openPool();
        market.placeBuy(0, 50, 5);
        market.placeBuy(0, 40, 5);
        market.placeBuy(0, 30, 5);
        market.placeSell(1, 20, 4);
        market.placeSell(1, 35, 4);
        market.placeSell(1, 60, 40);
        poolPrices("greatest volume", market, 35);
        Check.due("P12 volume", 8, market.closePool());
        Check.due("P34 price", 35, market.lastPrice());
        Check.due("P36 not more than the volume", 8, market.tradedQuantity());
        Check.due("P35 not more than the volume", 3, market.tradeCount());
    }

    private static void smallestSurplus() {
        DropMarket market = rich();
        market.openPool();
        market.placeBuy(0, 50, 5);
        market.placeBuy(0, 40, 6);
        market.placeSell(1, 30, 5);
        poolPrices("smallest surplus", market, 41);
        market.placeSell(1, 45, 1);
        poolPrices("at the end of a surplus", market, 41);
        market.placeSell(1, 39, 3);
        poolPrices("a greater volume goes ahead", market, 39);
    }

    private static void lowestPrice() {
        DropMarket market = rich();
        market.openPool();
        market.placeBuy(0, 50, 5);
        market.placeSell(1, 30, 5);
        poolPrices("lowest price", market, 30);
        market.placeSell(1, 20, 1);
        poolPrices("lowest of the rest", market, 30);
        market.placeBuy(1, 60, 1);
        poolPrices("lowest of all", market, 30);
    }

    private static void edgesOfPrices() {
        DropMarket low = rich();
        low.openPool();
        low.placeBuy(0, 1, 5);
        low.placeSell(1, 1, 2);
        poolPrices("at 1", low, 1);
        Check.due("P12 at 1", 2, low.closePool());
        DropMarket high = rich();
        high.openPool();
        high.placeBuy(0, 99, 5);
        high.placeSell(1, 99, 9);
        poolPrices("at 99", high, 99);
        Check.due("P12 at 99", 5, high.closePool());
        Check.due("P37 at 99", 495L, high.turnover());
    }

    private static void tradesOfThePool() {
        DropMarket market = rich();
        market.placeBuy(0, 30, 10);
        market.openPool();
        market.placeBuy(2, 40, 4);
        market.placeSell(1, 25, 8);
        market.placeSell(1, 29, 9);
        market.placeBuyFor(2, 30, 1, 5);
        poolPrices("with 15 to buy and 17 to sell", market, 29);
        Check.due("P12 volume", 15, market.closePool());
        Check.due("P35 trades", 4, market.tradeCount());
        Check.due("P36 quantity", 15, market.tradedQuantity());
        Check.due("P37 turnover", 15L * 29, market.turnover());
        Check.due("P34 all at one price", 29, market.lastPrice());
        Check.due("money of the first", 9999 - 290, market.moneyOf(0));
        Check.due("drops of the first", 1009, market.dropsOf(0));
        Check.due("money of the second", 9999 - 145, market.moneyOf(2));
        Check.due("money of the seller", 9999 + 435, market.moneyOf(1));
        Check.due("drops of the seller", 999 - 15, market.dropsOf(1));
        Check.due("P12 the rest is cancelled", 0, market.orderCount());
        Check.due("and bound no more", 999 - 15, market.freeDropsOf(1));
        Check.due("numbers go on", 5, market.placeBuy(0, 1, 1));
    }

    private static void oneTradeEndsWithinOrders() {
        DropMarket market = rich();
        market.openPool();
        market.placeSell(0, 10, 3);
        market.placeSell(1, 10, 3);
        market.placeBuy(2, 10, 4);
        poolPrices("more to sell", market, 10);
        Check.due("P12 volume", 4, market.closePool());
        Check.due("the lower number sells all", 999 - 3, market.dropsOf(0));
        Check.due("the higher number sells the rest", 999 - 1, market.dropsOf(1));
        Check.due("P35 trades", 2, market.tradeCount());
        DropMarket low = rich();
        low.openPool();
        low.placeBuy(0, 20, 3);
        low.placeBuy(1, 21, 3);
        low.placeSell(2, 19, 4);
        Check.due("P12 volume", 4, low.closePool());
        Check.due("the greater price buys all", 999 + 3, low.dropsOf(1));
        Check.due("the lower price buys the rest", 999 + 1, low.dropsOf(0));
        Check.due("at the price of the pool", 9999 - 3 * low.lastPrice(), low.moneyOf(1));
    }

    private static void poolWithManyTrades() {
        DropMarket market = rich();
        market.openPool();
        market.placeBuy(0, 50, 50);
        for (int i = 0; i < 19; i++) {
            market.placeSell(1, 50 - i, 1);
        }
        poolPrices("the price at which all sell", market, 50);
        Check.due("P12 volume", 19, market.closePool());
        Check.due("P35 a trade for each", 19, market.tradeCount());
        Check.due("P37 all at one price", 950L, market.turnover());
    }

    private static void emptyPools() {
        DropMarket market = rich();
        noPoolPrice("without orders", market);
        market.placeBuy(0, 10, 5);
        noPoolPrice("with one side", market);
        market.placeSellFor(1, 11, 5, 7);
        Check.unchanged("P41 and P42", market, () -> noPoolPrice("with prices that do not meet", market));
        market.openPool();
        Check.due("P12 volume 0", 0, market.closePool());
        Check.due("P12 cancels with volume 0", 0, market.orderCount());
        Check.due("P12 frees the money", 9999, market.freeMoneyOf(0));
        Check.due("P35 no trade", 0, market.tradeCount());
        market.openPool();
        market.placeSell(1, 11, 5);
        noPoolPrice("with the other side", market);
        Check.due("P12 with one side", 0, market.closePool());
        market.placeBuy(2, 15, 1);
        noPoolPrice("with one side behind pools", market);
    }

    private static void volumes() {
        DropMarket market = rich();
        Check.due("P43 without orders", 0, market.volumeAt(50));
        market.openPool();
        market.placeBuy(0, 30, 10);
        market.placeBuy(0, 28, 5);
        market.placeSell(1, 25, 8);
        market.placeSell(1, 29, 9);
        int[][] due = {{1, 0}, {24, 0}, {25, 8}, {28, 8}, {29, 10}, {30, 10}, {31, 0}, {99, 0}};
        for (int[] pair : due) {
            Check.due("P43 volumeAt " + pair[0], pair[1], market.volumeAt(pair[0]));
        }
        Check.unchanged("P43 volumeAt", market, () -> {
            for (int price : new int[] {0, -1, 100, Integer.MIN_VALUE, Integer.MAX_VALUE}) {
                Check.throwing("P43 at " + price, IllegalArgumentException.class, () -> market.volumeAt(price));
            }
        });
        market.closePool();
        market.placeBuy(0, 30, 10);
        market.placeSell(0, 40, 10);
        Check.due("P43 while the pool is closed", 0, market.volumeAt(30));
    }

    private static void noTrades() {
        DropMarket market = rich();
        market.placeBuy(0, 10, 1);
        market.takeSell(0, 11, 1);
        Check.refused("P34 no trade", market, NONE, market::lastPrice);
        Check.refused("P38 no trade", market, ArithmeticException.class, market::meanPrice);
        Check.due("P35 no trade", 0, market.tradeCount());
        Check.due("P36 no trade", 0, market.tradedQuantity());
        Check.due("P37 no trade", 0L, market.turnover());
    }

    private static void sumsOfTrades() {
        DropMarket market = rich();
        market.placeSell(1, 24, 5);
        market.placeSell(1, 25, 3);
        market.takeBuy(0, 30, 7);
        Check.due("P34 lastPrice", 25, market.lastPrice());
        Check.due("P35 tradeCount", 2, market.tradeCount());
        Check.due("P36 tradedQuantity", 7, market.tradedQuantity());
        Check.due("P37 turnover", 170L, market.turnover());
        Check.due("P38 meanPrice", 170.0 / 7.0, market.meanPrice());
        market.placeBuy(2, 20, 2);
        market.placeSell(0, 20, 1);
        Check.due("P34 the latest, not the greatest", 20, market.lastPrice());
        Check.due("P38 meanPrice", 190.0 / 8.0, market.meanPrice());
        market.undo();
        Check.due("P34 undone", 25, market.lastPrice());
        Check.due("P38 undone", 170.0 / 7.0, market.meanPrice());
    }

    private static void meanOfManyDrops() {
        DropMarket market = rich();
        for (int i = 0; i < 60; i++) {
            market.placeSell(0, 99, 50);
            market.takeBuy(0, 99, 50);
        }
        market.placeSell(0, 7, 1);
        market.takeBuy(0, 7, 1);
        Check.due("P35 tradeCount", 61, market.tradeCount());
        Check.due("P36 tradedQuantity", 3001, market.tradedQuantity());
        Check.due("P37 turnover", 297007L, market.turnover());
        Check.due("P38 meanPrice", 297007.0 / 3001.0, market.meanPrice());
    }
}
