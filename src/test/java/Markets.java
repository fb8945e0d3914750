/** Markets to begin a test with, and calls that take several steps. */
final class Markets {
    static final int[] FAR_NUMBERS = {Integer.MIN_VALUE, -100, 100_000, Integer.MAX_VALUE};

    private Markets() {
    }

    /** Stalls with as much money and as many drops as a new one can have. */
    static DropMarket rich(int stalls) {
        DropMarket market = new DropMarket();
        for (int stall = 0; stall < stalls; stall++) {
            market.addStall(9999, 999);
        }
        return market;
    }

    static DropMarket opened(int stalls) {
        DropMarket market = rich(stalls);
        market.openPool();
        return market;
    }

    /** 10 orders buy at 10 to 19, even numbers; 10 sell at 30 to 39, odd numbers; stall 3 has nothing. */
    static DropMarket full() {
        DropMarket market = rich(3);
        market.addStall(0, 0);
        for (int i = 0; i < 10; i++) {
            market.placeBuy(0, 10 + i, 1);
            market.placeSell(1, 30 + i, 1);
        }
        return market;
    }

    static DropMarket fullAndOpen() {
        DropMarket market = full();
        market.openPool();
        return market;
    }

    static DropMarket withOne(int money, int drops) {
        DropMarket market = new DropMarket();
        market.addStall(money, drops);
        return market;
    }

    /** Stall 0 trades with itself. */
    static DropMarket traded(DropMarket market, int price, int quantity) {
        market.placeSell(0, price, quantity);
        market.takeBuy(0, price, quantity);
        return market;
    }

    static DropMarket typed(DropMarket market, String text) {
        for (char sign : text.toCharArray()) {
            market.type(sign);
        }
        return market;
    }

    static int executed(DropMarket market, String text) {
        return typed(market, text).execute();
    }

    static String answerOf(DropMarket market, String text) {
        return Check.answer(typed(market, text)::execute);
    }

    static String writtenOrder(DropMarket market, int order) {
        market.writeOrder(order);
        return Picture.line(market);
    }

    static String writtenBook(DropMarket market) {
        market.writeBook();
        return Picture.line(market);
    }

    static void undo(DropMarket market, int times) {
        for (int i = 0; i < times; i++) {
            market.undo();
        }
    }
}
