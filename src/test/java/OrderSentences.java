import java.util.NoSuchElementException;
import java.util.function.Supplier;

/** Promises 3 to 10, sentence by sentence; what the six ways to give an order share is asked of each. */
final class OrderSentences {
    private static final Class<IllegalArgumentException> RANGE = IllegalArgumentException.class;
    private static final Class<IllegalStateException> STATE = IllegalStateException.class;
    private static final Class<UnsupportedOperationException> SHORT = UnsupportedOperationException.class;
    private static final Class<NoSuchElementException> NO_ORDER = NoSuchElementException.class;

    private OrderSentences() {
    }

    static void test() {
        lasting();
        expiring();
        immediate();
        for (Way way : Way.values()) {
            numbers(way);
            refusals(way);
            if (way.takes()) {
                returnedQuantity(way);
            } else {
                returnedNumber(way);
            }
        }
        cancelling();
        passing();
    }

    private static void lasting() {
        Sentence.holds(3, "Places a buying order that lasts.", () -> placedLasting(Way.BUY));
        Sentence.holds(4, "Places a selling order that lasts.", () -> placedLasting(Way.SELL));
    }

    private static void placedLasting(Way way) {
        DropMarket market = Markets.rich(1);
        way.give(market, 0, 40, 3);
        Check.due("side", way.buys(), market.isBuying(0));
        Check.throwing("it does not expire", STATE, () -> market.minutesLeft(0));
        for (int hour = 0; hour < 200; hour++) {
            Check.due("none expires", 0, market.pass(60));
        }
        Check.due("it is still there", 3, market.quantityOf(0));
    }

    private static void expiring() {
        Sentence.holds(5, "Places a buying order that expires.", () -> placedExpiring(Way.BUY_FOR));
        Sentence.holds(5, "`minutes`: the minutes until it expires, 1 to 60", () -> minutes(Way.BUY_FOR));
        Sentence.holds(6, "Places a selling order that expires.", () -> placedExpiring(Way.SELL_FOR));
        Sentence.holds(6, "`minutes`: the minutes until it expires, 1 to 60", () -> minutes(Way.SELL_FOR));
    }

    private static void placedExpiring(Way way) {
        DropMarket market = Markets.rich(1);
        market.pass(7);
        way.give(market, 0, 40, 3, 5);
        Check.due("side", way.buys(), market.isBuying(0));
        Check.due("minutes count from its placing", 5, market.minutesLeft(0));
        Check.due("not yet", 0, market.pass(4));
        Check.due("it is still there", 3, market.quantityOf(0));
        Check.due("now", 1, market.pass(1));
        Check.due("it is gone", 0, market.orderCount());
    }

    private static void minutes(Way way) {
        for (int minutes : new int[] {1, 2, 59, 60}) {
            DropMarket market = Markets.rich(1);
            way.give(market, 0, 40, 3, minutes);
            Check.due("minutes", minutes, market.minutesLeft(0));
        }
        for (int minutes : new int[] {0, -1, 61, Integer.MIN_VALUE, Integer.MAX_VALUE}) {
            Trace.refused(minutes + " minutes", () -> Markets.rich(1), RANGE,
                    market -> way.give(market, 0, 40, 3, minutes));
        }
    }

    private static void immediate() {
        Sentence.holds(7, "Carries out a buying order immediately.", () -> carriedOut(Way.TAKE_BUY));
        Sentence.holds(7, "It gets a number, too.", () -> getsNumber(Way.TAKE_BUY));
        Sentence.holds(8, "Carries out a selling order immediately.", () -> carriedOut(Way.TAKE_SELL));
        Sentence.holds(8, "It gets a number, too.", () -> getsNumber(Way.TAKE_SELL));
    }

    private static void carriedOut(Way way) {
        DropMarket market = Markets.rich(2);
        way.opposite().give(market, 0, 40, 3);
        way.give(market, 1, 40, 50);
        Check.due("the one in the book is used up, and the rest is dropped", 0, market.orderCount());
        int sign = way.buys() ? 1 : -1;
        Check.due("money", 9999 - sign * 120, market.moneyOf(1));
        Check.due("drops", 999 + sign * 3, market.dropsOf(1));
        Check.due("nothing is bound", market.moneyOf(1), market.freeMoneyOf(1));
        way.give(market, 1, 40, 50);
        Check.due("none in an empty book", 0, market.orderCount());
    }

    private static void getsNumber(Way way) {
        DropMarket market = Markets.rich(2);
        way.give(market, 1, 40, 1);
        Check.due("after one that trades nothing", 1, way.opposite().give(market, 0, 40, 3));
        way.give(market, 1, 40, 1);
        way.give(market, 1, 40, 3);
        Check.due("after two that trade", 4, way.opposite().give(market, 0, 40, 3));
        Check.answer(() -> way.give(market, 1, 40, 51));
        Check.due("none for a refused one", 5, way.opposite().give(market, 0, 40, 3));
    }

    private static void numbers(Way way) {
        Sentence.holds(way.promise, "`stall`: number of the stall", () -> stalls(way));
        Sentence.holds(way.promise, "`price`: the price, 1 to 99", () -> prices(way));
        Sentence.holds(way.promise, "`quantity`: the quantity, 1 to 50", () -> quantities(way));
    }

    private static void stalls(Way way) {
        for (int stall : new int[] {0, 1, 5}) {
            DropMarket market = Markets.rich(6);
            way.opposite().give(market, 3, 40, 2);
            way.give(market, stall, 40, 2);
            Check.due("drops of stall " + stall, 999 + (way.buys() ? 2 : -2), market.dropsOf(stall));
        }
    }

    /** What is in the book is traded with at its price: 1 and 99 are met by nothing but themselves. */
    private static void prices(Way way) {
        int best = way.buys() ? 1 : 99;
        for (int price : new int[] {1, 2, 98, 99}) {
            DropMarket market = Markets.rich(2);
            way.opposite().give(market, 0, price, 50);
            way.give(market, 1, price, 50);
            Check.due("price", price, market.lastPrice());
            if (price != best) {
                way.opposite().give(market, 0, price, 1);
                way.give(market, 1, price + (way.buys() ? -1 : 1), 1);
                Check.due("not met", 1, market.tradeCount());
            }
        }
        for (int price : new int[] {0, -1, 100}) {
            refused(way, () -> Markets.rich(1), 0, price, 1, RANGE);
        }
    }

    private static void quantities(Way way) {
        for (int quantity : new int[] {1, 2, 49, 50}) {
            DropMarket market = Markets.rich(2);
            way.opposite().give(market, 0, 40, 50);
            way.give(market, 1, 40, quantity);
            Check.due("quantity", quantity, market.tradedQuantity());
        }
        for (int quantity : new int[] {0, -1, 51}) {
            refused(way, () -> Markets.rich(1), 0, 1, quantity, RANGE);
        }
    }

    private static void refused(Way way, Supplier<DropMarket> made, int stall, int price, int quantity,
            Class<? extends Exception> want) {
        String what = "stall " + stall + " price " + price + " quantity " + quantity;
        Trace.refused(what, made, want, market -> way.give(market, stall, price, quantity));
    }

    private static void returnedNumber(Way way) {
        Sentence.holds(way.promise, "Returns the number of the order.", () -> {
            DropMarket market = Markets.rich(2);
            Check.due("the first", 0, way.give(market, 0, 40, 1));
            Check.due("the second", 1, way.give(market, 0, 40, 1));
            Check.due("one that is used up at once", 2, way.opposite().give(market, 0, 40, 2));
            Check.due("after it", 3, way.give(market, 0, 40, 1));
            Check.due("it is in the book", 3, market.orderAt(0));
        });
    }

    private static void returnedQuantity(Way way) {
        Sentence.holds(way.promise, "Returns the quantity that is traded.", () -> {
            DropMarket market = Markets.rich(2);
            Check.due("of an empty book", 0, way.give(market, 1, 40, 50));
            way.opposite().give(market, 0, 40, 50);
            Check.due("at no price that meets", 0, way.give(market, 1, way.buys() ? 39 : 41, 50));
            Check.due("the least", 1, way.give(market, 1, 40, 1));
            Check.due("what is left", 49, way.give(market, 1, 40, 50));
            way.opposite().give(market, 0, 40, 50);
            Check.due("the greatest", 50, way.give(market, 1, 40, 50));
            way.opposite().give(market, 0, 40, 20);
            way.opposite().give(market, 0, way.buys() ? 39 : 41, 20);
            Check.due("with several orders", 40, way.give(market, 1, 40, 50));
        });
    }

    private static void refusals(Way way) {
        Sentence.holds(way.promise, "Throws `IndexOutOfBoundsException` if there is no such stall", () -> {
            for (int stalls : new int[] {0, 1, 5, 6}) {
                refused(way, () -> Markets.rich(stalls), -1, 40, 1, IndexOutOfBoundsException.class);
                refused(way, () -> Markets.rich(stalls), stalls, 40, 1, IndexOutOfBoundsException.class);
            }
            for (int far : Markets.FAR_NUMBERS) {
                refused(way, () -> Markets.rich(6), far, 40, 1, IndexOutOfBoundsException.class);
            }
        });
        Sentence.holds(way.promise, "Throws `IllegalArgumentException` if a number is out of range", () -> {
            int[][] wrong = {{0, 1}, {-1, 1}, {100, 1}, {1, 0}, {1, -1}, {1, 51}, {0, 0}, {100, 51}, {0, 51}};
            for (int[] pair : wrong) {
                refused(way, () -> Markets.rich(1), 0, pair[0], pair[1], RANGE);
            }
            for (int far : Markets.FAR_NUMBERS) {
                refused(way, () -> Markets.rich(1), 0, far, 1, RANGE);
                refused(way, () -> Markets.rich(1), 0, 1, far, RANGE);
            }
        });
        if (way.takes()) {
            Sentence.holds(way.promise, "Throws `IllegalStateException` if the pool is open", () -> refusedInPool(way));
        } else {
            Sentence.holds(way.promise, "Throws `IllegalStateException` if there are 20 orders", () -> fullBook(way));
        }
        if (way.buys()) {
            Sentence.holds(way.promise, "Throws `UnsupportedOperationException` if the free money of the stall is less "
                    + "than the price times the quantity", () -> shortOfMoney(way));
        } else {
            Sentence.holds(way.promise, "Throws `UnsupportedOperationException` if the free drops of the stall are "
                    + "fewer than the quantity", () -> shortOfDrops(way));
        }
    }

    private static void refusedInPool(Way way) {
        refused(way, () -> Markets.opened(3), 0, 40, 1, STATE);
        refused(way, Markets::fullAndOpen, 2, way.buys() ? 99 : 1, 1, STATE);
        DropMarket market = Markets.fullAndOpen();
        market.undo();
        Check.due("before it was open", 1, way.give(market, 2, way.buys() ? 99 : 1, 1));
        market.openPool();
        market.closePool();
        Check.due("when it is closed again", 0, way.give(market, 2, way.buys() ? 99 : 1, 1));
    }

    private static void fullBook(Way way) {
        refused(way, Markets::full, 2, 25, 1, STATE);
        refused(way, Markets::fullAndOpen, 2, 25, 1, STATE);
        DropMarket market = Markets.full();
        market.cancel(19);
        Check.due("with 19 orders", 20, way.give(market, 2, 25, 1));
        Check.throwing("with 20 orders again", STATE, () -> way.give(market, 2, 25, 1));
        market.undo();
        Check.due("with 19 orders again", 20, way.give(market, 2, 25, 1));
    }

    private static void shortOfMoney(Way way) {
        refused(way, () -> Markets.withOne(0, 999), 0, 1, 1, SHORT);
        refused(way, () -> Markets.withOne(4949, 999), 0, 99, 50, SHORT);
        Check.due("just enough", 0, way.give(Markets.withOne(4950, 0), 0, 99, 50));
        Check.due("the least", 0, way.give(Markets.withOne(1, 0), 0, 1, 1));
        refused(way, () -> bound(Way.BUY), 0, 1, 1, SHORT);
        refused(way, () -> freed(Way.BUY), 0, 50, 2, SHORT);
        Check.due("just enough again", way.takes() ? 0 : 1, way.give(freed(Way.BUY), 0, 33, 3));
        Check.due("selling binds none", way.takes() ? 0 : 1, way.give(bound(Way.SELL), 0, 33, 3));
    }

    private static void shortOfDrops(Way way) {
        refused(way, () -> Markets.withOne(9999, 0), 0, 1, 1, SHORT);
        refused(way, () -> Markets.withOne(9999, 49), 0, 99, 50, SHORT);
        Check.due("just enough", 0, way.give(Markets.withOne(0, 50), 0, 99, 50));
        Check.due("the least", 0, way.give(Markets.withOne(0, 1), 0, 1, 1));
        refused(way, () -> bound(Way.SELL), 0, 99, 1, SHORT);
        refused(way, () -> freed(Way.SELL), 0, 99, 50, SHORT);
        Check.due("just enough again", way.takes() ? 0 : 1, way.give(freed(Way.SELL), 0, 99, 49));
        Check.due("buying binds none", way.takes() ? 0 : 1, way.give(bound(Way.BUY), 0, 99, 49));
    }

    /** The one stall has 99 money and 49 drops, and its order 0 binds all that this side can bind. */
    private static DropMarket bound(Way side) {
        DropMarket market = Markets.withOne(99, 49);
        side.give(market, 0, side.buys() ? 33 : 99, side.buys() ? 3 : 49);
        return market;
    }

    private static DropMarket freed(Way side) {
        DropMarket market = bound(side);
        market.cancel(0);
        return market;
    }

    private static void cancelling() {
        Sentence.holds(9, "Cancels an order.", () -> {
            for (int order : new int[] {0, 1, 9, 18, 19}) {
                DropMarket market = Markets.full();
                market.cancel(order);
                Check.due("19 orders stay", 19, market.orderCount());
                Check.throwing("it is gone", NO_ORDER, () -> market.quantityOf(order));
                int next = order == 19 ? 18 : order + 1;
                Check.due("the one beside it stays", next % 2 == 0 ? 10 + next / 2 : 30 + next / 2,
                        market.priceOf(next));
                int bound = order % 2 == 0 ? 145 - 10 - order / 2 : 145;
                Check.due("free money", 9999 - bound, market.freeMoneyOf(0));
                Check.due("free drops", 999 - (order % 2 == 0 ? 10 : 9), market.freeDropsOf(1));
            }
            Check.due("in an open pool", 1, Markets.fullAndOpen().cancel(7));
        });
        Sentence.holds(9, "`order`: number of the order", () -> {
            DropMarket market = Markets.full();
            Check.due("the least", 1, market.cancel(0));
            Check.due("the greatest", 1, market.cancel(19));
            Check.due("one more", 20, market.placeBuy(0, 5, 4));
            Check.due("a greater one", 4, market.cancel(20));
        });
        Sentence.holds(9, "Returns the quantity that was left of it.", () -> {
            DropMarket market = Markets.rich(2);
            market.placeSell(0, 40, 50);
            market.placeSell(0, 41, 50);
            market.takeBuy(1, 41, 49);
            Check.due("the least", 1, market.cancel(0));
            Check.due("the greatest", 50, market.cancel(1));
        });
        Sentence.holds(9, "Throws `NoSuchElementException` if there is no such order",
                () -> MissingOrders.refused(DropMarket::cancel));
    }

    private static void passing() {
        Sentence.holds(10, "Lets minutes pass.", () -> {
            DropMarket market = Markets.rich(1);
            market.placeBuyFor(0, 40, 1, 60);
            market.pass(59);
            Check.due("time", 59, market.time());
            Check.due("minutes left", 1, market.minutesLeft(0));
        });
        Sentence.holds(10, "`minutes`: the number of minutes, 1 to 60", () -> {
            for (int minutes : new int[] {1, 2, 59, 60}) {
                DropMarket market = Markets.rich(1);
                market.pass(minutes);
                Check.due("time", minutes, market.time());
            }
        });
        Sentence.holds(10, "Returns the number of orders that expire.", () -> {
            Check.due("of an empty market", 0, new DropMarket().pass(60));
            Check.due("of orders that last", 0, Markets.full().pass(60));
            Check.due("one minute before", 0, mortal().pass(29));
            Check.due("all 20", 20, mortal().pass(30));
            Check.due("all 20 long after", 20, mortal().pass(60));
            DropMarket market = mortal();
            market.cancel(0);
            market.placeBuyFor(0, 5, 1, 31);
            Check.due("but the last", 19, market.pass(30));
            Check.due("and then the last", 1, market.pass(1));
            Check.due("none twice", 0, market.pass(60));
            DropMarket first = mortal();
            first.cancel(19);
            first.placeBuy(0, 5, 1);
            Check.due("but the one that lasts", 19, first.pass(60));
            Check.due("it stays", 20, first.orderAt(0));
            DropMarket closed = mortal();
            closed.openPool();
            closed.closePool();
            Check.due("none that a pool has cancelled", 0, closed.pass(60));
            Check.due("and the book stays empty", 0, closed.orderCount());
        });
        Sentence.holds(10, "Throws `IllegalArgumentException` if the number of minutes is out of range", () -> {
            for (int minutes : new int[] {0, -1, 61, Integer.MIN_VALUE, Integer.MAX_VALUE}) {
                Trace.refused(minutes + " minutes", OrderSentences::mortal, RANGE, market -> market.pass(minutes));
            }
        });
    }

    /** A full book in which all expire in 30 minutes. */
    private static DropMarket mortal() {
        DropMarket market = Markets.rich(1);
        for (int i = 0; i < 10; i++) {
            market.placeBuyFor(0, 10 + i, 1, 30);
            market.placeSellFor(0, 30 + i, 1, 30);
        }
        return market;
    }
}
