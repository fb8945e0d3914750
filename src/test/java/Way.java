/** The six ways to give an order, so that what they share is asked of each. */
enum Way {
    BUY(3, "placeBuy"), SELL(4, "placeSell"), BUY_FOR(5, "placeBuyFor"), SELL_FOR(6, "placeSellFor"),
    TAKE_BUY(7, "takeBuy"), TAKE_SELL(8, "takeSell");

    final int promise;
    final String label;

    Way(int promise, String call) {
        this.promise = promise;
        this.label = "P" + promise + " " + call;
    }

    int give(DropMarket market, int stall, int price, int quantity) {
        return give(market, stall, price, quantity, this == BUY_FOR ? 60 : 1);
    }

    /** The minutes count for an order that expires alone. */
    int give(DropMarket market, int stall, int price, int quantity, int minutes) {
        switch (this) {
            case BUY:
                return market.placeBuy(stall, price, quantity);
            case SELL:
                return market.placeSell(stall, price, quantity);
            case BUY_FOR:
                return market.placeBuyFor(stall, price, quantity, minutes);
            case SELL_FOR:
                return market.placeSellFor(stall, price, quantity, minutes);
            case TAKE_BUY:
                return market.takeBuy(stall, price, quantity);
            default:
                return market.takeSell(stall, price, quantity);
        }
    }

    boolean buys() {
        return this == BUY || this == BUY_FOR || this == TAKE_BUY;
    }

    boolean takes() {
        return this == TAKE_BUY || this == TAKE_SELL;
    }

    boolean expires() {
        return this == BUY_FOR || this == SELL_FOR;
    }

    /** The way to place what this way trades with. */
    Way opposite() {
        return buys() ? SELL : BUY;
    }
}
