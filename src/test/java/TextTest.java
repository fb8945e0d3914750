import java.util.NoSuchElementException;

/** Promises 49 to 52: the text buffer and the commands in it. */
public final class TextTest {
    private static final Class<IllegalArgumentException> RANGE = IllegalArgumentException.class;
    private static final Class<IllegalStateException> STATE = IllegalStateException.class;

    public static void main(String[] args) {
        typing();
        eachCommand();
        manyCommands();
        malformedTexts();
        failingCommands();
        allOrNothing();
        lastOfEachError();
        buffersAndState();
        Check.end("TextTest");
    }

    private static DropMarket rich() {
        DropMarket market = new DropMarket();
        market.addStall(9999, 999);
        market.addStall(9999, 999);
        return market;
    }

    private static void type(DropMarket market, String text) {
        for (int i = 0; i < text.length(); i++) {
            Check.due("P49 type", i + 1, market.type(text.charAt(i)));
        }
    }

    private static void executed(DropMarket market, String text, Object due) {
        type(market, text);
        Check.due("P50 execute " + text, String.valueOf(due), Check.answer(market::execute));
    }

    private static void typing() {
        DropMarket market = new DropMarket();
        Check.unchanged("P49 type", market, () -> {
            for (int sign : new int[] {0, 9, 10, 31, 127, 128, 255, 256 + 65, 65535}) {
                Check.throwing("P49 sign " + sign, RANGE, () -> market.type((char) sign));
            }
        });
        Check.due("P49 the first sign", 1, market.type((char) 32));
        Check.due("P49 the last sign", 2, market.type((char) 126));
        for (int i = 3; i <= 60; i++) {
            Check.due("P49 length", i, market.type('x'));
        }
        Check.refused("P49 full", market, STATE, () -> market.type('x'));
        Check.refused("P49 sign before full", market, RANGE, () -> market.type((char) 31));
        Check.due("P50 malformed", "throws IllegalArgumentException", Check.answer(market::execute));
        Check.due("P50 empties the buffer", 1, market.type('x'));
    }

    private static void eachCommand() {
        DropMarket market = new DropMarket();
        executed(market, "stall 999 50", 1);
        Check.due("stall's money", 999, market.moneyOf(0));
        Check.due("stall's drops", 50, market.dropsOf(0));
        executed(market, "buy 0 012 7", 1);
        Check.due("buy", "0b7x12", written(market, 0));
        executed(market, "sell 0 99 050", 1);
        Check.due("sell", "1s50x99", written(market, 1));
        Check.due("it lasts", "throws IllegalStateException", Check.answer(() -> market.minutesLeft(1)));
        executed(market, "cancel 001", 1);
        Check.due("cancel", 1, market.orderCount());
        executed(market, "pass 60", 1);
        Check.due("pass", 60, market.time());
        executed(market, "open", 1);
        Check.due("open", true, market.isPoolOpen());
        executed(market, "close", 1);
        Check.due("close", false, market.isPoolOpen());
        Check.due("close cancels", 0, market.orderCount());
        Check.due("P51 no text was malformed", "throws NoSuchElementException", Check.answer(market::errorPosition));
        Check.due("P52 no command failed", "throws NoSuchElementException", Check.answer(market::failedCommand));
    }

    private static String written(DropMarket market, int order) {
        market.writeOrder(order);
        return Picture.line(market);
    }

    private static void manyCommands() {
        DropMarket market = rich();
        executed(market, "open;close;open;close;open;close;open;close;open;close;open", 11);
        Check.due("the last one counts", true, market.isPoolOpen());
        executed(market, "buy 0 30 9;sell 1 20 4;close;sell 1 5 3;buy 0 6 2;pass 1", 6);
        Check.due("trades of the texts", 2, market.tradeCount());
        Check.due("price of the pool, then of the book", 5, market.lastPrice());
        Check.due("time", 1, market.time());
        Check.due("the number behind them", 4, market.placeBuy(0, 1, 1));
    }

    /** A text and the position of its error. */
    private static final Object[][] MALFORMED = {
        {"", 0}, {" ", 0}, {"x", 0}, {";", 0}, {"0", 0}, {"Open", 0}, {"s", 1}, {"st", 2}, {"se", 2}, {"sx", 1},
        {"stell", 2}, {"sela", 3}, {"stal", 4}, {"stall", 5}, {"stalls", 5}, {"stall ", 6}, {"stall  1", 6},
        {"stall x", 6}, {"stall 1", 7}, {"stall 12", 8}, {"stall 123", 9}, {"stall 1234", 9}, {"stall 123;", 9},
        {"stall 1;", 7}, {"stall 1 ", 8}, {"stall 1 ;", 8}, {"stall 1 2345", 11}, {"stall 1 2 3", 9},
        {"stall 1 2 ", 9}, {"stall 1 2;", 10}, {"stall -1 2", 6}, {"stall 1 2,", 9}, {"buy", 3}, {"bu", 2},
        {"by", 1}, {"b", 1}, {"buy 01 2 3", 5}, {"buy 0", 5}, {"buy 0;", 5}, {"buy 0 ", 6}, {"buy 0 1", 7},
        {"buy 0 1;", 7}, {"buy 0 1 ", 8}, {"buy 0 1 1000", 11}, {"buy 0 1000 1", 9}, {"buy 0 1 1 1", 9},
        {"buy x", 4}, {"buy  0", 4}, {"sell", 4}, {"sell 12", 6}, {"sell 1 2", 8}, {"sell 1 2 3 ", 10},
        {"sell1 2 3", 4}, {"c", 1}, {"ca", 2}, {"cl", 2}, {"co", 1}, {"cancel", 6}, {"cancel;", 6}, {"cancel ", 7},
        {"cancel 1234", 10}, {"cancel 12 ", 9}, {"cancelx", 6}, {"clost", 4}, {"close ", 5}, {"close 1", 5},
        {"closed", 5}, {"p", 1}, {"pas", 3}, {"pass", 4}, {"pass ", 5}, {"pass 1x", 6}, {"pass 1000", 8},
        {"o", 1}, {"ope", 3}, {"open;", 5}, {"open ;", 4}, {"open; open", 5}, {"open;;open", 5}, {"open,open", 4},
        {" open", 0}, {"open;clos", 9}, {"open;close;x", 11}, {"open;close;cancel", 17}, {"opens", 4},
        {"open;close;open;close;open;close;open;close;open;close;open;", 60},
        {"open;close;open;close;open;close;open;close;open;close;pass ", 60},
        {"open;close;open;close;open;close;open;close;open;close;openx", 59},
    };

    private static void malformedTexts() {
        for (Object[] pair : MALFORMED) {
            String text = (String) pair[0];
            DropMarket market = rich();
            market.placeBuy(0, 5, 5);
            String before = Picture.of(market).replaceAll("errorPosition.*", "");
            executed(market, text, "throws IllegalArgumentException");
            Check.due("P51 error position of '" + text + "'", pair[1], market.errorPosition());
            Check.due("P52 no command failed in '" + text + "'", "throws NoSuchElementException",
                    Check.answer(market::failedCommand));
            String after = Picture.of(market).replaceAll("errorPosition.*", "");
            Check.due("P50 nothing is done by '" + text + "'", before, after);
            Check.due("P50 empties the buffer", 1, market.type('o'));
            Check.due("P53 no modification", 2, market.undo());
        }
    }

    /** A text and the index of the command that fails, in a market with stalls 0 and 1 and order 0. */
    private static final Object[][] FAILING = {
        {"buy 2 1 1", 0}, {"sell 2 1 1", 0}, {"buy 9 1 1", 0}, {"buy 0 0 1", 0}, {"buy 0 100 1", 0},
        {"buy 0 1 0", 0}, {"buy 0 1 51", 0}, {"sell 0 100 1", 0}, {"sell 0 1 51", 0}, {"cancel 1", 0},
        {"cancel 999", 0}, {"pass 0", 0}, {"pass 61", 0}, {"close", 0}, {"open;open", 1}, {"open;close;close", 2},
        {"cancel 0;cancel 0", 1}, {"pass 1;pass 1;pass 000", 2}, {"pass 60;buy 0 1 1;sell 1 1 1;cancel 2", 3},
        {"stall 5 5;stall 5 5;stall 5 5;stall 5 5;stall 5 5", 4}, {"stall 5 5;buy 2 5 1;buy 2 1 1", 2},
        {"stall 5 5;sell 2 5 5;sell 2 5 1", 2}, {"buy 7 1 1;close;pass 0", 0}, {"open;close;cancel 0", 2},
    };

    private static void failingCommands() {
        for (Object[] pair : FAILING) {
            String text = (String) pair[0];
            DropMarket market = rich();
            market.placeBuy(0, 5, 5);
            String before = Picture.of(market).replaceAll("failedCommand.*", "");
            executed(market, text, "throws IllegalStateException");
            Check.due("P52 the command that fails in " + text, pair[1], market.failedCommand());
            Check.due("P51 no text was malformed", "throws NoSuchElementException",
                    Check.answer(market::errorPosition));
            String after = Picture.of(market).replaceAll("failedCommand.*", "");
            Check.due("P50 effects of " + text + " are taken back", before, after);
            Check.due("P50 the next number is taken back", 1, market.placeBuy(0, 5, 5));
            Check.due("P50 empties the buffer", 1, market.type('o'));
            Check.due("P53 no modification", 3, market.undo());
        }
    }

    private static void allOrNothing() {
        DropMarket market = rich();
        for (int i = 0; i < 18; i++) {
            market.placeBuy(0, 5, 1);
        }
        executed(market, "buy 0 5 1;buy 0 5 1;buy 0 5 1", "throws IllegalStateException");
        Check.due("P52 the 21st order", 2, market.failedCommand());
        Check.due("P50 none of them", 18, market.orderCount());
        executed(market, "buy 0 5 1;cancel 0;buy 0 5 1;buy 0 5 1", 4);
        Check.due("P50 all of them", 20, market.orderCount());
        Check.due("P53 one modification", 7, market.undo());
        Check.due("P53 undone as a whole", 18, market.orderCount());
        executed(market, "buy 0 5 1", 1);
        Check.due("P53 with the number", 18, market.orderAt(18));
    }

    private static void lastOfEachError() {
        DropMarket market = rich();
        executed(market, "opfn", "throws IllegalArgumentException");
        executed(market, "open;open", "throws IllegalStateException");
        executed(market, "open", 1);
        Check.due("P51 stays", 2, market.errorPosition());
        Check.due("P52 stays", 1, market.failedCommand());
        executed(market, "close;close", "throws IllegalStateException");
        executed(market, "close 1", "throws IllegalArgumentException");
        Check.due("P51 the last one", 5, market.errorPosition());
        executed(market, "pass 0", "throws IllegalStateException");
        Check.due("P52 the last one", 0, market.failedCommand());
        executed(market, "", "throws IllegalArgumentException");
        Check.due("P51 of an empty text", 0, market.errorPosition());
        Check.due("P52 is no state", 0, undone(market).failedCommand());
        Check.due("P51 is no state", 0, market.errorPosition());
    }

    private static DropMarket undone(DropMarket market) {
        market.undo();
        return market;
    }

    private static void buffersAndState() {
        DropMarket market = rich();
        type(market, "op");
        market.save();
        market.type('e');
        market.placeBuy(0, 1, 1);
        market.undo();
        Check.due("undo leaves the buffer", 4, market.type('n'));
        market.restore();
        Check.due("restore leaves the buffer", 1, market.execute());
        Check.due("the text was whole", true, market.isPoolOpen());
        type(market, "close");
        Check.due("P54 save", 0, market.save());
        Check.due("save leaves the buffer", 1, market.execute());
        Check.refused("P52 no command failed", market, NoSuchElementException.class, market::failedCommand);
        Check.refused("P51 no text was malformed", market, NoSuchElementException.class, market::errorPosition);
    }
}
