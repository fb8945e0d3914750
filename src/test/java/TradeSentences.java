import java.util.NoSuchElementException;
import java.util.function.Supplier;

/** What "Terms" says on priority, trades and the pool, sentence by sentence. */
final class TradeSentences {
    private TradeSentences() {
    }

    static void test() {
        priority();
        tradingAtOnce();
        tradesOfOrders();
        accountsOfTrades();
        pricesOfPools();
        closingPools();
        clarifications();
    }

    private static void term(String sentence, Runnable test) {
        Sentence.holds(Document.TERMS, sentence, test);
    }

    private static void priority() {
        term("Of the buying orders, the one with the greater price has priority; of the selling orders, the one with "
                + "the lower price.", () -> {
                    for (int price : new int[] {2, 50, 98}) {
                        DropMarket market = Markets.rich(1);
                        market.placeBuy(0, price - 1, 1);
                        market.placeBuy(0, price, 1);
                        market.placeBuy(0, price - 1, 1);
                        Check.due("buying", 1, market.bestBuy());
                        market.placeSell(0, price + 1, 1);
                        market.placeSell(0, price, 1);
                        Check.due("traded", price, market.lastPrice());
                        market.placeSell(0, price, 1);
                        market.placeSell(0, price + 1, 1);
                        Check.due("selling", 5, market.bestSell());
                    }
                });
        term("Orders of the same side with the same price have priority by their numbers, the lower one first.", () -> {
            DropMarket market = Markets.rich(3);
            market.placeBuy(0, 40, 2);
            market.placeBuy(1, 40, 50);
            market.placeBuy(2, 40, 1);
            market.takeSell(0, 40, 1);
            Check.due("a part is left, and it stays the first", 0, market.bestBuy());
            market.takeSell(0, 40, 1);
            Check.due("then the second", 1, market.bestBuy());
            market.takeSell(0, 40, 50);
            Check.due("then the third", 2, market.bestBuy());
            market.placeSell(0, 60, 1);
            market.placeSellFor(0, 60, 50, 1);
            Check.due("selling", market.orderAt(1), market.bestSell());
            market.cancel(market.bestSell());
            Check.due("then the second", market.orderAt(1), market.bestSell());
        });
    }

    private static void tradingAtOnce() {
        term("While the pool is closed, a new order trades at once.", () -> {
            for (Way way : Way.values()) {
                DropMarket market = Markets.rich(1);
                way.opposite().give(market, 0, 40, 1);
                way.give(market, 0, 40, 1);
                Check.due(way.label, 1, market.tradeCount());
            }
        });
        term("A new buying order trades with the selling order with the highest priority as long as it has a quantity "
                + "left and the price of this selling order is not greater than its own one.", () -> {
                    DropMarket market = sellers();
                    market.placeBuy(1, 41, 4);
                    Check.due("up to its own price", 162L, market.turnover());
                    Check.due("it has nothing left", 2, market.orderCount());
                    market.placeBuy(1, 41, 2);
                    Check.due("one at its own price, none at a greater one", 203L, market.turnover());
                    Check.due("what is left is in the book", 1, market.quantityOf(market.bestBuy()));
                    Check.due("takeBuy, none", 0, market.takeBuy(1, 41, 50));
                    Check.due("takeBuy, at the greater price", 5, market.takeBuy(1, 42, 50));
                    wholeBook(Way.BUY);
                    wholeBook(Way.TAKE_BUY);
                });
        term("A new selling order trades with the buying order with the highest priority as long as it has a quantity "
                + "left and the price of this buying order is not lower than its own one.", () -> {
                    DropMarket market = buyers();
                    market.placeSell(1, 41, 4);
                    Check.due("down to its own price", 166L, market.turnover());
                    Check.due("it has nothing left", 2, market.orderCount());
                    market.placeSell(1, 41, 2);
                    Check.due("one at its own price, none at a lower one", 207L, market.turnover());
                    Check.due("what is left is in the book", 1, market.quantityOf(market.bestSell()));
                    Check.due("takeSell, none", 0, market.takeSell(1, 41, 50));
                    Check.due("takeSell, at the lower price", 5, market.takeSell(1, 40, 50));
                    wholeBook(Way.SELL);
                    wholeBook(Way.TAKE_SELL);
                });
    }

    /** Of 20 orders, which no order can be placed behind, 19 or all 20 are traded with by one. */
    private static void wholeBook(Way way) {
        int orders = way.takes() ? 20 : 19;
        DropMarket market = Markets.rich(2);
        for (int order = 0; order < orders; order++) {
            way.opposite().give(market, 0, 40 + order, 1);
        }
        way.give(market, 1, way.buys() ? 59 : 40, orders);
        Check.due(way.label + " trades with all", orders, market.tradeCount());
        Check.due(way.label + " leaves none", 0, market.orderCount());
    }

    /** 5 at 42, 2 at 41 and 2 at 40, the greater price placed first. */
    private static DropMarket sellers() {
        DropMarket market = Markets.rich(2);
        market.placeSell(0, 42, 5);
        market.placeSell(0, 41, 2);
        market.placeSell(0, 40, 1);
        market.placeSell(0, 40, 1);
        market.placeSell(0, 41, 1);
        return market;
    }

    private static DropMarket buyers() {
        DropMarket market = Markets.rich(2);
        market.placeBuy(0, 40, 5);
        market.placeBuy(0, 41, 2);
        market.placeBuy(0, 42, 1);
        market.placeBuy(0, 42, 1);
        market.placeBuy(0, 41, 1);
        return market;
    }

    private static void tradesOfOrders() {
        term("In each trade, both trade the smaller one of their quantities at the price of the order in the book.",
                () -> {
                    for (Way way : Way.values()) {
                        bothTrade(way, 50, 1);
                        bothTrade(way, 1, 50);
                        bothTrade(way, 50, 50);
                    }
                });
        term("An order whose quantity becomes 0 leaves the book.", () -> {
            for (Way way : Way.values()) {
                DropMarket market = Markets.rich(1);
                way.opposite().give(market, 0, 40, 5);
                way.give(market, 0, 40, 4);
                Check.due(way.label + " leaves 1", 1, market.quantityOf(0));
                way.give(market, 0, 40, 1);
                Check.due(way.label + " leaves none", 0, market.orderCount());
            }
        });
        term("What is left of the new order enters the book, unless the order is carried out immediately: then the "
                + "rest is dropped.", () -> {
                    for (Way way : Way.values()) {
                        DropMarket market = Markets.rich(1);
                        way.opposite().give(market, 0, 40, 3);
                        way.give(market, 0, 40, 4);
                        Check.due(way.label + " orders", way.takes() ? 0 : 1, market.orderCount());
                        String left = way.takes() ? "throws NoSuchElementException" : "1";
                        Check.due(way.label + " left", left, Check.answer(() -> market.quantityOf(1)));
                    }
                });
    }

    private static void bothTrade(Way way, int inBook, int added) {
        DropMarket market = Markets.rich(2);
        int price = way.buys() ? 30 : 60;
        way.opposite().give(market, 0, price, inBook);
        way.give(market, 1, 45, added);
        Check.due(way.label + " quantity", Math.min(inBook, added), market.tradedQuantity());
        Check.due(way.label + " price", price, market.lastPrice());
        Check.due(way.label + " in one trade", 1, market.tradeCount());
    }

    private static void accountsOfTrades() {
        term("A stall can trade with itself.", () -> {
            for (Way way : Way.values()) {
                DropMarket market = Markets.withOne(4950, 50);
                way.opposite().give(market, 0, 99, 50);
                way.give(market, 0, 99, 50);
                Check.due(way.label + " money", 4950, market.moneyOf(0));
                Check.due(way.label + " drops", 50, market.dropsOf(0));
                Check.due(way.label + " trades", 1, market.tradeCount());
            }
        });
        term("In a trade, the money for it goes from the buying to the selling stall, and the drops go the other way.",
                () -> {
                    for (Way way : Way.values()) {
                        DropMarket market = Markets.rich(3);
                        way.opposite().give(market, 2, 40, 3);
                        way.give(market, 0, 40, 3);
                        int bought = way.buys() ? 3 : -3;
                        Check.due(way.label + " money", 9999 - 40 * bought, market.moneyOf(0));
                        Check.due(way.label + " drops", 999 + bought, market.dropsOf(0));
                        Check.due(way.label + " money of the other", 9999 + 40 * bought, market.moneyOf(2));
                        Check.due(way.label + " drops of the other", 999 - bought, market.dropsOf(2));
                        Check.due(way.label + " a third", 9999 + 999, market.moneyOf(1) + market.dropsOf(1));
                    }
                });
    }

    private static void pricesOfPools() {
        term("While the pool is open, new orders enter the book and do not trade.", () -> {
            for (Way way : new Way[] {Way.BUY, Way.SELL, Way.BUY_FOR, Way.SELL_FOR}) {
                DropMarket market = Markets.opened(1);
                way.opposite().give(market, 0, 40, 5);
                way.give(market, 0, 40, 5);
                Check.due(way.label + " orders", 2, market.orderCount());
                Check.due(way.label + " quantity", 5, market.quantityOf(1));
                Check.due(way.label + " trades", 0, market.tradeCount());
            }
        });
        term("The volume at a price is the smaller one of two sums: the quantities of all buying orders whose price is "
                + "not lower than it, and the quantities of all selling orders whose price is not greater than it.",
                () -> {
                    DropMarket market = pool(new int[][] {{40, 3}, {41, 4}, {42, 50}}, new int[][] {{41, 5}, {39, 2}});
                    int[][] due = {{38, 0}, {39, 2}, {40, 2}, {41, 7}, {42, 7}, {43, 0}};
                    for (int[] pair : due) {
                        Check.due("at " + pair[0], pair[1], market.volumeAt(pair[0]));
                    }
                    DropMarket sold = Markets.opened(1);
                    sold.placeSell(0, 40, 5);
                    sold.placeBuy(0, 40, 7);
                    Check.due("a selling order is the first", 5, sold.volumeAt(40));
                });
        term("The surplus at this price is the absolute difference of both sums.", () -> {
            priced("3 more to buy up to 50, 2 more to sell from 51", 51, new int[][] {{60, 5}, {50, 3}},
                    new int[][] {{40, 5}, {51, 2}});
            priced("2 more to buy up to 50, 3 more to sell from 51", 40, new int[][] {{60, 5}, {50, 2}},
                    new int[][] {{40, 5}, {51, 3}});
            priced("2 more to buy up to 50, 2 more to sell from 51", 40, new int[][] {{60, 5}, {50, 2}},
                    new int[][] {{40, 5}, {51, 2}});
            priced("as many between them", 51, new int[][] {{60, 5}, {50, 3}}, new int[][] {{40, 5}, {52, 2}});
            priced("more to sell at all prices", 40, new int[][] {{60, 5}}, new int[][] {{40, 9}, {45, 1}});
            priced("more to buy at all prices", 56, new int[][] {{60, 9}, {55, 1}}, new int[][] {{40, 5}});
        });
        term("The price of the pool is the one, of 1 to 99, with the greatest volume; of several, the one with the "
                + "smallest surplus; and of several of these, the lowest.", () -> {
                    priced("at 1 alone", 1, new int[][] {{1, 1}}, new int[][] {{1, 50}});
                    priced("at 99 alone", 99, new int[][] {{99, 50}}, new int[][] {{99, 1}});
                    priced("the lowest of all", 1, new int[][] {{99, 7}}, new int[][] {{1, 7}});
                    priced("the lowest of some", 40, new int[][] {{60, 7}}, new int[][] {{40, 7}});
                    priced("the smallest surplus is last", 99, new int[][] {{98, 1}, {99, 7}}, new int[][] {{1, 7}});
                    priced("the smallest surplus is first", 1, new int[][] {{99, 7}}, new int[][] {{1, 7}, {2, 1}});
                    priced("the volume goes ahead of the surplus", 50, new int[][] {{50, 8}, {70, 3}},
                            new int[][] {{50, 1}, {40, 3}});
                    priced("the volume goes ahead of the lowest", 70, new int[][] {{70, 4}, {30, 3}},
                            new int[][] {{30, 3}, {70, 1}});
                });
    }

    /** An open pool of two rich stalls; each pair is a price and a quantity, and stall 0 buys from stall 1. */
    private static DropMarket pool(int[][] buying, int[][] selling) {
        DropMarket market = Markets.opened(2);
        for (int[] pair : buying) {
            market.placeBuy(0, pair[0], pair[1]);
        }
        for (int[] pair : selling) {
            market.placeSell(1, pair[0], pair[1]);
        }
        return market;
    }

    private static void priced(String what, int price, int[][] buying, int[][] selling) {
        DropMarket market = pool(buying, selling);
        Check.due(what + ", tried", price, market.poolPrice());
        Check.due(what + ", by sums", price, market.poolPriceBySums());
        int volume = market.volumeAt(price);
        Check.due(what + ", volume", volume, market.closePool());
        Check.due(what + ", traded", volume, market.tradedQuantity());
        Check.due(what + ", price of the trades", price, market.lastPrice());
    }

    private static void closingPools() {
        term("When the pool closes, all its trades have the same price.", () -> {
            DropMarket market = pool(new int[][] {{90, 1}, {80, 1}, {70, 1}}, new int[][] {{10, 1}, {20, 1}, {30, 1}});
            market.closePool();
            Check.due("three trades at 30", 90L, market.turnover());
            Check.due("three trades", 3, market.tradeCount());
        });
        term("When the pool is closed, orders are traded at this price until the volume is reached: again and again "
                + "the buying order and the selling order with the highest priority trade the smaller one of their "
                + "quantities, but not more than what is missing to the volume.", () -> {
                    byPriority();
                    untilTheVolume();
                });
        term("Then all orders that are left are cancelled.", () -> {
            DropMarket market = pool(new int[][] {{60, 5}, {30, 5}}, new int[][] {{40, 4}, {70, 5}});
            market.closePool();
            Check.due("orders", 0, market.orderCount());
            Check.due("their money is free", 9999 - 4 * market.lastPrice(), market.freeMoneyOf(0));
            Check.due("their drops are free", 995, market.freeDropsOf(1));
            forgotten(Way.BUY);
            forgotten(Way.SELL);
        });
        term("If the greatest volume is 0, nothing is traded.", () -> {
            Supplier<DropMarket> apart = () -> pool(new int[][] {{49, 5}}, new int[][] {{50, 5}});
            DropMarket market = apart.get();
            Check.due("volume", 0, market.closePool());
            Check.due("trades", 0, market.tradeCount());
            Check.due("money", 9999, market.moneyOf(0));
            Check.due("one side", 0, pool(new int[][] {{49, 5}}, new int[][] {}).closePool());
            Check.due("the other side", 0, pool(new int[][] {}, new int[][] {{1, 5}}).closePool());
            Check.due("no orders", 0, pool(new int[][] {}, new int[][] {}).closePool());
        });
    }

    /** No sum counts an order that a pool has cancelled, whatever is placed after it. */
    private static void forgotten(Way side) {
        DropMarket market = Markets.opened(1);
        side.give(market, 0, side.buys() ? 40 : 60, 2);
        side.opposite().give(market, 0, side.buys() ? 60 : 40, 2);
        side.give(market, 0, 50, 2);
        market.closePool();
        Check.due("free money", 9999, market.freeMoneyOf(0));
        Check.due("free drops", 999, market.freeDropsOf(0));
        for (int price : new int[] {40, 50, 60}) {
            Check.due("quantity at " + price, 0, market.buyingAt(price) + market.sellingAt(price));
        }
        int meeting = side.buys() ? 70 : 30;
        side.give(market, 0, meeting, 1);
        Check.due("volume", 0, market.volumeAt(meeting));
        Check.due("share", side.buys() ? 1f : 0f, market.buyingShare());
        Check.throwing("no price", NoSuchElementException.class, market::poolPrice);
        Check.throwing("no price by sums", NoSuchElementException.class, market::poolPriceBySums);
        Check.throwing("no spread", NoSuchElementException.class, market::spread);
        Check.throwing("no spread by sums", NoSuchElementException.class, market::spreadBySums);
        Check.due("nothing to trade with", 0, side.buys() ? market.takeBuy(0, 99, 1) : market.takeSell(0, 1, 1));
    }

    /** Each stall gives one order, so that its accounts tell what was traded. */
    private static void byPriority() {
        DropMarket market = Markets.opened(6);
        market.placeBuy(0, 40, 4);
        market.placeBuy(1, 40, 4);
        market.placeBuy(2, 50, 1);
        market.placeSell(3, 40, 2);
        market.placeSell(4, 30, 3);
        market.placeSell(5, 40, 1);
        Check.due("volume", 6, market.closePool());
        int[] drops = {4, 1, 1, -2, -3, -1};
        for (int stall = 0; stall < 6; stall++) {
            Check.due("drops of stall " + stall, 999 + drops[stall], market.dropsOf(stall));
            Check.due("money of stall " + stall, 9999 - 40 * drops[stall], market.moneyOf(stall));
        }
        Check.due("trades of 1, 2, 2 and 1", 4, market.tradeCount());
    }

    private static void untilTheVolume() {
        DropMarket market = pool(new int[][] {{40, 50}, {30, 50}}, new int[][] {{40, 49}});
        Check.due("less than an order", 49, market.closePool());
        Check.due("in one trade", 1, market.tradeCount());
        DropMarket bought = pool(new int[][] {{40, 3}, {20, 50}}, new int[][] {{10, 2}, {35, 50}});
        Check.due("not the next order, which would meet the last one", 3, bought.closePool());
        Check.due("in two trades", 2, bought.tradeCount());
    }

    private static void clarifications() {
        term("When there are 20 orders in the book, no order can be placed, not even one that would trade at once; "
                + "takeBuy and takeSell do not depend on the number of orders.", () -> {
                    for (Way way : Way.values()) {
                        int price = way.buys() ? 99 : 1;
                        DropMarket market = Markets.full();
                        String due = way.takes() ? "1" : "throws IllegalStateException";
                        Check.due(way.label, due, Check.answer(() -> way.give(market, 2, price, 1)));
                    }
                });
        term("A trade of a stall with itself is counted like any other trade.", () -> {
            DropMarket market = Markets.traded(Markets.rich(1), 40, 3);
            Check.due("trades", 1, market.tradeCount());
            Check.due("quantity", 3, market.tradedQuantity());
            Check.due("money", 120L, market.turnover());
            Check.due("price", 40, market.lastPrice());
            market.openPool();
            market.placeBuy(0, 50, 2);
            market.placeSell(0, 50, 2);
            Check.due("in a pool", 2, market.closePool());
            Check.due("trades", 2, market.tradeCount());
            Check.due("money", 220L, market.turnover());
        });
        term("When the pool closes, all orders that are left are cancelled, also if the volume is 0.", () -> {
            DropMarket market = Markets.fullAndOpen();
            Check.due("volume", 0, market.closePool());
            Check.due("orders", 0, market.orderCount());
            Check.due("free money", 9999, market.freeMoneyOf(0));
            Check.due("free drops", 999, market.freeDropsOf(1));
        });
        term("Whether the free money suffices is checked with the price of the new order itself, whatever it would "
                + "trade at.", () -> {
                    for (Way way : new Way[] {Way.BUY, Way.BUY_FOR, Way.TAKE_BUY}) {
                        DropMarket market = Markets.rich(1);
                        market.addStall(100, 0);
                        market.placeSell(0, 1, 50);
                        Check.throwing(way.label, UnsupportedOperationException.class,
                                () -> way.give(market, 1, 51, 2));
                        way.give(market, 1, 50, 2);
                        Check.due(way.label + " just enough, and cheaper", 98, market.freeMoneyOf(1));
                    }
                });
    }
}
