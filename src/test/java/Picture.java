import java.util.concurrent.Callable;

/**
 * What can be asked of a market without changing it, as one text. Sums at single prices are left out: they follow from
 * the orders, and each call is one of the 512 that an object is promised for.
 */
final class Picture {
    private final StringBuilder text = new StringBuilder();

    private Picture() {
    }

    static String of(DropMarket market) {
        Picture picture = new Picture();
        picture.addAccounts(market);
        picture.addOrders(market);
        picture.addBook(market);
        picture.addTrades(market);
        picture.addLine(market);
        return picture.text.toString();
    }

    private void add(String name, Callable<?> call) {
        text.append(name).append('=').append(Check.answer(call)).append(' ');
    }

    private void addAccounts(DropMarket market) {
        int stalls = market.stallCount();
        for (int i = 0; i < stalls; i++) {
            int stall = i;
            add("moneyOf", () -> market.moneyOf(stall));
            add("dropsOf", () -> market.dropsOf(stall));
            add("freeMoneyOf", () -> market.freeMoneyOf(stall));
            add("freeDropsOf", () -> market.freeDropsOf(stall));
            add("stallByMoney", () -> market.stallByMoney(stall));
        }
        add("totalMoney", market::totalMoney);
        add("totalDrops", market::totalDrops);
    }

    private void addOrders(DropMarket market) {
        int orders = market.orderCount();
        for (int position = 0; position < orders; position++) {
            int order = market.orderAt(position);
            text.append("order=").append(order).append(' ');
            add("stallOf", () -> market.stallOf(order));
            add("isBuying", () -> market.isBuying(order));
            add("priceOf", () -> market.priceOf(order));
            add("quantityOf", () -> market.quantityOf(order));
            add("minutesLeft", () -> market.minutesLeft(order));
        }
    }

    private void addBook(DropMarket market) {
        add("bestBuy", market::bestBuy);
        add("bestSell", market::bestSell);
        add("spread", market::spread);
        add("spreadBySums", market::spreadBySums);
        add("buyingShare", market::buyingShare);
        add("poolPrice", market::poolPrice);
        add("poolPriceBySums", market::poolPriceBySums);
        add("isConsistent", market::isConsistent);
    }

    private void addTrades(DropMarket market) {
        add("lastPrice", market::lastPrice);
        add("tradeCount", market::tradeCount);
        add("tradedQuantity", market::tradedQuantity);
        add("turnover", market::turnover);
        add("meanPrice", market::meanPrice);
        add("isPoolOpen", market::isPoolOpen);
        add("time", market::time);
    }

    private void addLine(DropMarket market) {
        text.append("line=").append(line(market)).append(' ');
        add("errorPosition", market::errorPosition);
        add("failedCommand", market::failedCommand);
    }

    /** Up to the first index that is refused. */
    static String line(DropMarket market) {
        StringBuilder line = new StringBuilder();
        String sign = signAt(market, 0);
        while (sign.length() == 1) {
            line.append(sign);
            sign = signAt(market, line.length());
        }
        return line.toString();
    }

    private static String signAt(DropMarket market, int index) {
        return Check.answer(() -> market.lineAt(index));
    }
}
