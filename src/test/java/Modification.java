import java.util.List;
import java.util.function.Function;
import java.util.function.Supplier;

/** A call that can be undone, and a market in which it succeeds; each of those that the document names stands once. */
record Modification(String name, Supplier<DropMarket> made, Function<DropMarket, Integer> call) {
    static final List<Modification> ALL = List.of(
            new Modification("addStall", Modification::market, market -> market.addStall(9999, 999)),
            new Modification("placeBuy", Modification::market, market -> market.placeBuy(0, 33, 5)),
            new Modification("placeSell", Modification::market, market -> market.placeSell(1, 22, 5)),
            new Modification("placeBuyFor", Modification::market, market -> market.placeBuyFor(0, 33, 5, 7)),
            new Modification("placeSellFor", Modification::market, market -> market.placeSellFor(1, 22, 5, 7)),
            new Modification("takeBuy", Modification::market, market -> market.takeBuy(0, 33, 5)),
            new Modification("takeBuy of nothing", Modification::market, market -> market.takeBuy(0, 1, 5)),
            new Modification("takeSell", Modification::market, market -> market.takeSell(1, 22, 5)),
            new Modification("takeSell of nothing", Modification::market, market -> market.takeSell(1, 99, 5)),
            new Modification("cancel", Modification::market, market -> market.cancel(1)),
            new Modification("pass", Modification::market, market -> market.pass(3)),
            new Modification("pass until one expires", Modification::market, market -> market.pass(60)),
            new Modification("openPool", Modification::market, DropMarket::openPool),
            new Modification("closePool", Modification::pool, DropMarket::closePool),
            new Modification("closePool of nothing", () -> Markets.opened(2), DropMarket::closePool),
            new Modification("execute", Modification::market,
                    market -> Markets.executed(market, "stall 1 1;buy 0 33 5;sell 1 22 5;cancel 3;pass 3;open")),
            new Modification("execute in a pool", Modification::pool,
                    market -> Markets.executed(market, "close;open;close")));

    /** 3 modifications behind a snapshot, without an empty buffer or a text that went wrong. */
    private static DropMarket market() {
        DropMarket market = Markets.rich(2);
        market.placeBuy(0, 22, 3);
        market.placeSell(1, 33, 3);
        market.placeBuyFor(1, 21, 4, 9);
        market.save();
        market.restore();
        market.pass(2);
        market.placeSell(0, 34, 4);
        market.takeBuy(1, 33, 1);
        return market;
    }

    private static DropMarket pool() {
        DropMarket market = market();
        market.openPool();
        market.placeBuy(0, 40, 3);
        market.placeSell(1, 20, 7);
        return market;
    }
}
