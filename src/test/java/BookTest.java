import java.util.NoSuchElementException;

/** Promises 21 to 33 and 39: what can be asked of the orders in the book. */
public final class BookTest {
    private static final Class<NoSuchElementException> NONE = NoSuchElementException.class;
    private static final int[] NO_ORDERS = {-1, 1, 6, 20, Integer.MIN_VALUE, Integer.MAX_VALUE};

    public static void main(String[] args) {
        emptyBook();
        positions();
        oneOrder();
        ordersThatAreNotThere();
        bestOfEqualPrices();
        spreads();
        quantitiesAtPrices();
        shares();
        Check.end("BookTest");
    }

    /** Order 1 is cancelled, so that positions and numbers differ. */
    private static DropMarket market() {
        DropMarket market = new DropMarket();
        market.addStall(9999, 999);
        market.addStall(9999, 999);
        market.placeBuy(0, 20, 5);
        market.placeBuy(0, 50, 1);
        market.placeSell(1, 70, 6);
        market.placeBuyFor(1, 30, 7, 9);
        market.placeSellFor(0, 60, 8, 11);
        market.placeBuy(0, 30, 3);
        market.cancel(1);
        return market;
    }

    private static void emptyBook() {
        DropMarket market = new DropMarket();
        Check.due("P21 orderCount", 0, market.orderCount());
        Check.unchanged("an empty book", market, () -> {
            Check.throwing("P22 orderAt", IndexOutOfBoundsException.class, () -> market.orderAt(0));
            Check.throwing("P28 bestBuy", NONE, market::bestBuy);
            Check.throwing("P29 bestSell", NONE, market::bestSell);
            Check.throwing("P30 spread", NONE, market::spread);
            Check.throwing("P31 spreadBySums", NONE, market::spreadBySums);
            Check.throwing("P39 buyingShare", ArithmeticException.class, market::buyingShare);
        });
        Check.due("P32 buyingAt", 0, market.buyingAt(1));
        Check.due("P33 sellingAt", 0, market.sellingAt(99));
    }

    private static void positions() {
        DropMarket market = market();
        Check.due("P21 orderCount", 5, market.orderCount());
        int[] numbers = {0, 2, 3, 4, 5};
        for (int position = 0; position < numbers.length; position++) {
            Check.due("P22 orderAt " + position, numbers[position], market.orderAt(position));
        }
        Check.unchanged("P22 orderAt", market, () -> {
            for (int position : new int[] {-1, 5, 19, 20, Integer.MIN_VALUE, Integer.MAX_VALUE}) {
                Check.throwing("P22 orderAt " + position, IndexOutOfBoundsException.class,
                        () -> market.orderAt(position));
            }
        });
    }

    private static void oneOrder() {
        DropMarket market = market();
        int[][] due = {{0, 0, 1, 20, 5}, {2, 1, 0, 70, 6}, {3, 1, 1, 30, 7}, {4, 0, 0, 60, 8}, {5, 0, 1, 30, 3}};
        for (int[] order : due) {
            Check.due("P23 stallOf", order[1], market.stallOf(order[0]));
            Check.due("P24 isBuying", order[2] == 1, market.isBuying(order[0]));
            Check.due("P25 priceOf", order[3], market.priceOf(order[0]));
            Check.due("P26 quantityOf", order[4], market.quantityOf(order[0]));
        }
        Check.due("P27 minutesLeft", 9, market.minutesLeft(3));
        Check.due("P27 minutesLeft", 11, market.minutesLeft(4));
        Check.unchanged("P27 lasts", market, () -> {
            for (int order : new int[] {0, 2, 5}) {
                Check.throwing("P27 lasts", IllegalStateException.class, () -> market.minutesLeft(order));
            }
        });
    }

    private static void ordersThatAreNotThere() {
        noOrder(market(), NO_ORDERS);
        noOrder(new DropMarket(), new int[] {0});
    }

    private static void noOrder(DropMarket market, int[] orders) {
        Check.unchanged("P23 to P27", market, () -> {
            for (int order : orders) {
                Check.throwing("P23 stallOf " + order, NONE, () -> market.stallOf(order));
                Check.throwing("P24 isBuying " + order, NONE, () -> market.isBuying(order));
                Check.throwing("P25 priceOf " + order, NONE, () -> market.priceOf(order));
                Check.throwing("P26 quantityOf " + order, NONE, () -> market.quantityOf(order));
                Check.throwing("P27 minutesLeft " + order, NONE, () -> market.minutesLeft(order));
            }
        });
    }

    private static void bestOfEqualPrices() {
        DropMarket market = market();
        Check.due("P28 the greater price, then the lower number", 3, market.bestBuy());
        Check.due("P29 the lower price", 4, market.bestSell());
        market.placeSell(1, 60, 1);
        Check.due("P29 then the lower number", 4, market.bestSell());
        market.cancel(3);
        Check.due("P28 the next one", 5, market.bestBuy());
        market.cancel(5);
        market.cancel(0);
        Check.refused("P28 sells only", market, NONE, market::bestBuy);
        Check.due("P29 sells only", 4, market.bestSell());
        DropMarket buys = new DropMarket();
        buys.addStall(100, 100);
        buys.placeBuy(0, 1, 1);
        Check.refused("P29 buys only", buys, NONE, buys::bestSell);
        Check.due("P28 buys only", 0, buys.bestBuy());
    }

    private static void spreads() {
        DropMarket market = market();
        Check.due("P30 spread", 30, market.spread());
        Check.due("P31 spreadBySums", 30, market.spreadBySums());
        market.openPool();
        market.placeBuy(0, 60, 1);
        Check.due("P30 of none", 0, market.spread());
        Check.due("P31 of none", 0, market.spreadBySums());
        market.placeBuy(0, 61, 1);
        Check.due("P30 negative", -1, market.spread());
        Check.due("P31 negative", -1, market.spreadBySums());
        market.placeBuy(0, 99, 1);
        market.placeSell(0, 1, 1);
        Check.due("P30 the least", -98, market.spread());
        Check.due("P31 the least", -98, market.spreadBySums());
        market.closePool();
        market.placeBuy(0, 1, 1);
        noSpread("one side", market);
        market.placeSell(0, 99, 1);
        Check.due("P30 the greatest", 98, market.spread());
        Check.due("P31 the greatest", 98, market.spreadBySums());
        market.cancel(market.bestBuy());
        noSpread("the other side", market);
    }

    private static void noSpread(String what, DropMarket market) {
        Check.unchanged(what, market, () -> {
            Check.throwing("P30 " + what, NONE, market::spread);
            Check.throwing("P31 " + what, NONE, market::spreadBySums);
        });
    }

    private static void quantitiesAtPrices() {
        DropMarket market = market();
        Check.due("P32 of two orders", 10, market.buyingAt(30));
        Check.due("P32 of one order", 5, market.buyingAt(20));
        Check.due("P32 of a cancelled one", 0, market.buyingAt(50));
        Check.due("P32 of a selling one", 0, market.buyingAt(60));
        market.placeSell(1, 60, 20);
        Check.due("P33 of two orders", 28, market.sellingAt(60));
        Check.due("P33 of one order", 6, market.sellingAt(70));
        Check.due("P33 of a buying one", 0, market.sellingAt(30));
        market.takeBuy(1, 60, 3);
        Check.due("P33 of what is left", 25, market.sellingAt(60));
        Check.unchanged("P32 and P33", market, () -> {
            for (int price : new int[] {0, -1, 100, Integer.MIN_VALUE, Integer.MAX_VALUE}) {
                Check.throwing("P32 at " + price, IllegalArgumentException.class, () -> market.buyingAt(price));
                Check.throwing("P33 at " + price, IllegalArgumentException.class, () -> market.sellingAt(price));
            }
        });
        DropMarket edges = new DropMarket();
        edges.addStall(9999, 999);
        edges.placeBuy(0, 1, 50);
        edges.placeSell(0, 99, 50);
        Check.due("P32 at 1", 50, edges.buyingAt(1));
        Check.due("P33 at 99", 50, edges.sellingAt(99));
        Check.due("P32 at 99", 0, edges.buyingAt(99));
        Check.due("P33 at 1", 0, edges.sellingAt(1));
    }

    private static void shares() {
        DropMarket market = market();
        Check.due("P39 three of five", 3f / 5f, market.buyingShare());
        market.cancel(0);
        Check.due("P39 two of four", 0.5f, market.buyingShare());
        market.cancel(3);
        Check.due("P39 one of three", 1f / 3f, market.buyingShare());
        market.cancel(5);
        Check.due("P39 none of two", 0f, market.buyingShare());
        market.openPool();
        market.closePool();
        Check.refused("P39 after the pool", market, ArithmeticException.class, market::buyingShare);
        market.placeSell(0, 10, 1);
        Check.due("P39 none of one after the pool", 0f, market.buyingShare());
        market.cancel(market.bestSell());
        market.placeBuy(0, 10, 1);
        Check.due("P39 one of one", 1f, market.buyingShare());
    }
}
