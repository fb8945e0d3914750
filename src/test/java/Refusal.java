import java.util.ArrayList;
import java.util.List;
import java.util.NoSuchElementException;
import java.util.function.Function;
import java.util.function.Supplier;

/** A call that must be refused, and the market that must stay as it is; each exception of the face stands once. */
record Refusal(String name, Supplier<DropMarket> made, Class<? extends Exception> thrown,
        Function<DropMarket, ?> call) {
    private static final Class<IllegalArgumentException> RANGE = IllegalArgumentException.class;
    private static final Class<IllegalStateException> STATE = IllegalStateException.class;
    private static final Class<NoSuchElementException> NONE = NoSuchElementException.class;
    private static final Class<IndexOutOfBoundsException> INDEX = IndexOutOfBoundsException.class;

    static final List<Refusal> ALL = all();

    private static List<Refusal> all() {
        List<Refusal> all = new ArrayList<>();
        for (Way way : Way.values()) {
            all.add(busy(way.label + " stall", INDEX, market -> way.give(market, 6, 1, 1)));
            all.add(busy(way.label + " price", RANGE, market -> way.give(market, 0, 100, 1)));
            all.add(busy(way.label + " quantity", RANGE, market -> way.give(market, 0, 1, 51)));
            all.add(busy(way.label + " short", UnsupportedOperationException.class,
                    market -> way.give(market, 5, 1, 1)));
            all.add(new Refusal(way.label + " state", way.takes() ? Refusal::busyPool : Refusal::busyAndFull, STATE,
                    market -> way.give(market, 0, 40, 1)));
        }
        addOtherModifications(all);
        addQuestions(all);
        return all;
    }

    private static void addOtherModifications(List<Refusal> all) {
        all.add(busy("addStall range", RANGE, market -> market.addStall(10000, 0)));
        all.add(busy("addStall full", STATE, market -> market.addStall(0, 0)));
        all.add(busy("placeBuyFor minutes", RANGE, market -> market.placeBuyFor(0, 1, 1, 0)));
        all.add(busy("placeSellFor minutes", RANGE, market -> market.placeSellFor(0, 1, 1, 61)));
        all.add(busy("cancel", NONE, market -> market.cancel(2)));
        all.add(busy("pass", RANGE, market -> market.pass(61)));
        all.add(new Refusal("openPool", Refusal::busyPool, STATE, DropMarket::openPool));
        all.add(busy("closePool", STATE, DropMarket::closePool));
        all.add(busy("type", RANGE, market -> market.type((char) 31)));
        all.add(new Refusal("type full", () -> Markets.typed(busy(), "x".repeat(60)), STATE,
                market -> market.type('x')));
        all.add(new Refusal("undo", () -> Markets.typed(restored(), "ope"), STATE, DropMarket::undo));
        all.add(new Refusal("restore", Markets::full, STATE, DropMarket::restore));
    }

    private static void addQuestions(List<Refusal> all) {
        all.add(busy("moneyOf", INDEX, market -> market.moneyOf(6)));
        all.add(busy("dropsOf", INDEX, market -> market.dropsOf(6)));
        all.add(busy("freeMoneyOf", INDEX, market -> market.freeMoneyOf(6)));
        all.add(busy("freeDropsOf", INDEX, market -> market.freeDropsOf(6)));
        all.add(busy("stallByMoney", NONE, market -> market.stallByMoney(6)));
        all.add(busy("orderAt", INDEX, market -> market.orderAt(3)));
        all.add(busy("stallOf", NONE, market -> market.stallOf(2)));
        all.add(busy("isBuying", NONE, market -> market.isBuying(2)));
        all.add(busy("priceOf", NONE, market -> market.priceOf(2)));
        all.add(busy("quantityOf", NONE, market -> market.quantityOf(2)));
        all.add(busy("minutesLeft", NONE, market -> market.minutesLeft(2)));
        all.add(busy("minutesLeft of one that lasts", STATE, market -> market.minutesLeft(0)));
        all.add(busy("buyingAt", RANGE, market -> market.buyingAt(0)));
        all.add(busy("sellingAt", RANGE, market -> market.sellingAt(100)));
        all.add(busy("volumeAt", RANGE, market -> market.volumeAt(0)));
        all.add(busy("poolPrice", NONE, DropMarket::poolPrice));
        all.add(busy("poolPriceBySums", NONE, DropMarket::poolPriceBySums));
        all.add(busy("writeOrder", NONE, market -> market.writeOrder(2)));
        all.add(busy("lineAt", INDEX, market -> market.lineAt(9)));
        List<Function<DropMarket, ?>> empty = List.of(DropMarket::bestBuy, DropMarket::bestSell, DropMarket::spread,
                DropMarket::spreadBySums, DropMarket::lastPrice, DropMarket::errorPosition, DropMarket::failedCommand);
        empty.forEach(call -> all.add(new Refusal("of no orders, trades, errors", Refusal::quiet, NONE, call)));
        all.add(new Refusal("meanPrice", Refusal::quiet, ArithmeticException.class, DropMarket::meanPrice));
        all.add(new Refusal("buyingShare", Refusal::quiet, ArithmeticException.class, DropMarket::buyingShare));
    }

    private static Refusal busy(String name, Class<? extends Exception> thrown, Function<DropMarket, ?> call) {
        return new Refusal(name, Refusal::busy, thrown, call);
    }

    /** Six stalls, the last without anything; orders 0, 1 and 3; a trade, a snapshot, both errors and a line. */
    static DropMarket busy() {
        DropMarket market = Markets.rich(5);
        market.addStall(0, 0);
        Markets.answerOf(market, "open;x");
        Markets.answerOf(market, "pass 1;close");
        market.placeBuy(0, 20, 3);
        market.placeSellFor(1, 30, 4, 9);
        market.save();
        market.takeBuy(2, 30, 1);
        market.placeSell(3, 35, 5);
        market.writeBook();
        market.pass(2);
        return market;
    }

    private static DropMarket busyPool() {
        DropMarket market = busy();
        market.openPool();
        market.placeBuy(4, 40, 9);
        return market;
    }

    private static DropMarket busyAndFull() {
        DropMarket market = busy();
        for (int order = 3; order < 20; order++) {
            market.placeSell(4, 50, 1);
        }
        return market;
    }

    private static DropMarket restored() {
        DropMarket market = busy();
        market.restore();
        return market;
    }

    /** Stalls and modifications, but no order, no trade and no error. */
    private static DropMarket quiet() {
        DropMarket market = Markets.rich(2);
        market.placeBuy(0, 20, 3);
        market.save();
        market.cancel(0);
        market.writeBook();
        return market;
    }
}
