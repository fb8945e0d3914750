import java.util.List;
import java.util.NoSuchElementException;
import java.util.function.Supplier;

/** "What it is" and "Terms", sentence by sentence, but for those on trades, the pool and texts. */
final class TermSentences {
    private static final Class<IllegalStateException> STATE = IllegalStateException.class;

    private TermSentences() {
    }

    static void test() {
        whatItIs();
        stalls();
        orders();
        minutes();
        undo();
        exceptions();
    }

    private static void term(String sentence, Runnable test) {
        Sentence.holds(Document.TERMS, sentence, test);
    }

    private static void whatItIs() {
        term("A market where stalls buy and sell drops of rain: an order book with priority by price and time, orders "
                + "that expire or are cancelled, and a pool in which all trades are made at one price.", () -> {
                    DropMarket market = Markets.rich(2);
                    market.placeSellFor(0, 40, 5, 10);
                    market.placeSell(0, 40, 5);
                    market.takeBuy(1, 40, 6);
                    Check.due("expired", 0, market.pass(10));
                    Check.due("cancelled", 4, market.cancel(1));
                    market.openPool();
                    Check.due("an empty pool", 0, market.closePool());
                });
        term("An object is used for at most 512 calls after it has been made; what later calls answer is free.", () -> {
            DropMarket market = Markets.rich(1);
            for (int order = 0; order < 508; order += 2) {
                Check.due("number", order, market.placeSell(0, 99, 50));
                Check.due("quantity", 50, market.takeBuy(0, 99, 50));
            }
            Check.due("call 510", 508, market.placeSell(0, 99, 50));
            Check.due("call 511", 508, market.orderAt(0));
            Check.due("call 512", 1257300L, market.turnover());
        });
        term("The class finds the spread and the price of the pool in two ways each, keeps accounts, executes command "
                + "texts, and supports undo and snapshots.", () -> {
                    for (int buying = 1; buying <= 99; buying += 7) {
                        DropMarket market = Markets.opened(1);
                        market.placeBuy(0, buying, 3);
                        market.placeSell(0, 50, 4);
                        Check.due("spread", market.spread(), market.spreadBySums());
                        Check.due("price", Check.answer(market::poolPrice), Check.answer(market::poolPriceBySums));
                    }
                });
    }

    private static void stalls() {
        term("There are at most 6 stalls, numbered from 0 in the order in which they were added.", () -> {
            DropMarket market = new DropMarket();
            for (int stall = 0; stall < 6; stall++) {
                Check.due("number", stall, market.addStall(60 - stall, stall));
            }
            Check.throwing("a seventh", STATE, () -> market.addStall(1, 1));
            Check.due("the first", 60, market.moneyOf(0));
            Check.due("the last", 55, market.moneyOf(5));
        });
        term("A stall has money and drops.", () -> {
            DropMarket market = Markets.withOne(12, 34);
            Check.due("money", 12, market.moneyOf(0));
            Check.due("drops", 34, market.dropsOf(0));
        });
        term("Its free money is its money minus the price times the quantity of each of its buying orders.", () -> {
            DropMarket market = Markets.withOne(7 * 3 + 5 * 4 + 1, 9);
            market.addStall(100, 100);
            market.placeBuy(0, 7, 3);
            market.placeBuyFor(0, 5, 4, 1);
            market.placeBuy(1, 2, 9);
            market.placeSell(0, 90, 9);
            Check.due("free", 1, market.freeMoneyOf(0));
            Check.due("of the other", 82, market.freeMoneyOf(1));
            market.takeSell(1, 7, 2);
            Check.due("a trade at the price of the order", 1, market.freeMoneyOf(0));
            market.placeBuy(0, 1, 1);
            Check.due("none is left", 0, market.freeMoneyOf(0));
        });
        term("Its free drops are its drops minus the quantity of each of its selling orders.", () -> {
            DropMarket market = Markets.withOne(99, 3 + 4 + 1);
            market.addStall(999, 100);
            market.placeSell(0, 7, 3);
            market.placeSellFor(0, 5, 4, 1);
            market.placeSell(1, 20, 9);
            market.placeBuy(0, 1, 50);
            Check.due("free", 1, market.freeDropsOf(0));
            Check.due("of the other", 91, market.freeDropsOf(1));
            market.takeBuy(1, 5, 2);
            Check.due("a trade of the order", 1, market.freeDropsOf(0));
            market.placeSell(0, 99, 1);
            Check.due("none is left", 0, market.freeDropsOf(0));
        });
    }

    private static void orders() {
        term("An order belongs to a stall, buys or sells, and has a price from 1 to 99 and a quantity, which is from 1 "
                + "to 50 when it is placed.", () -> {
                    DropMarket market = Markets.rich(6);
                    market.placeBuy(5, 1, 1);
                    market.placeSell(0, 99, 50);
                    Check.due("the least", "0b1x1", Markets.writtenOrder(market, 0));
                    Check.due("the greatest", "1s50x99", Markets.writtenOrder(market, 1));
                    Check.due("stalls", 5, market.stallOf(0) + market.stallOf(1));
                });
        term("Orders get ascending numbers, beginning with 0; a number is not given again.", () -> {
            DropMarket market = Markets.rich(1);
            Check.due("the first", 0, market.placeBuy(0, 40, 1));
            market.cancel(0);
            Check.due("after a cancelled one", 1, market.placeBuyFor(0, 40, 1, 1));
            market.pass(1);
            Check.due("after an expired one", 2, market.placeSell(0, 40, 1));
            market.takeBuy(0, 40, 1);
            Check.due("after two that traded", 4, market.placeSell(0, 40, 1));
            market.openPool();
            market.closePool();
            Check.due("after a pool", 5, market.placeSell(0, 40, 1));
            Markets.executed(market, "sell 0 41 1;sell 0 42 1");
            Check.due("after a text", 8, market.placeSell(0, 43, 1));
        });
        term("At most 20 orders are in the book.", () -> {
            for (Way way : List.of(Way.BUY, Way.SELL, Way.BUY_FOR, Way.SELL_FOR)) {
                DropMarket market = Markets.rich(1);
                for (int order = 0; order < 20; order++) {
                    Check.due("number", order, way.give(market, 0, 40, 1));
                }
                Check.throwing("one more", STATE, () -> way.give(market, 0, 40, 1));
                Check.due("orders", 20, market.orderCount());
            }
        });
        term("An order lasts until it is cancelled, or it expires after a number of minutes.", () -> {
            DropMarket market = Markets.rich(1);
            market.placeBuy(0, 40, 1);
            market.placeBuyFor(0, 40, 1, 60);
            market.placeBuyFor(0, 40, 1, 1);
            Check.due("after 1 minute", 1, market.pass(1));
            Check.due("after 59", 0, market.pass(58));
            Check.due("after 60", 1, market.pass(1));
            Check.due("after 120", 0, market.pass(60));
            Check.due("cancelled", 1, market.cancel(0));
            Check.due("none is left", 0, market.orderCount());
        });
    }

    private static void minutes() {
        term("When a minute passes, the time increases by 1, and the minutes that are left to each order that expires "
                + "decrease by 1; if they become 0, the order leaves the book.", () -> {
                    stepByStep(Markets.rich(1));
                    stepByStep(Markets.opened(1));
                    DropMarket market = Markets.rich(1);
                    market.placeSellFor(0, 40, 2, 3);
                    market.takeBuy(0, 40, 1);
                    Check.due("what is left of it expires", 1, market.pass(3));
                    market.placeSellFor(0, 40, 2, 3);
                    market.undo();
                    market.undo();
                    Check.due("undone, it has its minutes again", 3, market.minutesLeft(0));
                });
    }

    private static void stepByStep(DropMarket market) {
        market.placeBuyFor(0, 10, 1, 2);
        market.placeSellFor(0, 60, 1, 3);
        market.placeBuy(0, 11, 1);
        market.pass(1);
        Check.due("time", 1, market.time());
        Check.due("one less", 1, market.minutesLeft(0));
        Check.due("one less of the other", 2, market.minutesLeft(1));
        market.pass(1);
        Check.throwing("0 are left", NoSuchElementException.class, () -> market.minutesLeft(0));
        Check.due("two orders stay", 2, market.orderCount());
        market.pass(1);
        Check.due("one order stays", 2, market.orderAt(0));
        Check.due("time", 3, market.time());
    }

    private static void undo() {
        term("The last 8 successful modifications can be undone; undoing also restores the number that the next order "
                + "gets.", () -> {
                    DropMarket market = Markets.rich(1);
                    for (int order = 0; order < 9; order++) {
                        market.placeBuy(0, 1 + order, 1);
                    }
                    Check.answer(() -> market.placeBuy(0, 0, 1));
                    Markets.undo(market, 8);
                    Check.throwing("a ninth", STATE, market::undo);
                    Check.due("one order stays", 1, market.orderCount());
                    Check.due("the next number", 1, market.placeBuy(0, 1, 1));
                    market.undo();
                    market.takeBuy(0, 1, 1);
                    market.undo();
                    Check.due("once more", 1, market.placeBuy(0, 1, 1));
                });
        term("The modifications are the successful calls of addStall, placeBuy, placeSell, placeBuyFor, placeSellFor, "
                + "takeBuy, takeSell, cancel, pass, openPool, closePool and execute.", () -> {
                    for (Modification modification : Modification.ALL) {
                        DropMarket market = modification.made().get();
                        market.save();
                        market.restore();
                        modification.call().apply(market);
                        Check.due(modification.name() + " is one", 0, market.undo());
                    }
                    DropMarket market = Markets.rich(1);
                    market.save();
                    market.type('x');
                    Check.answer(market::execute);
                    market.writeBook();
                    market.isConsistent();
                    Check.due("nothing else is one", 0, market.undo());
                });
        term("The text buffer, the error position, the index of the failed command and the line are not part of the "
                + "state that is undone, saved or restored.", () -> {
                    DropMarket market = Markets.rich(1);
                    market.save();
                    market.pass(1);
                    Markets.answerOf(market, "open;x");
                    Markets.answerOf(market, "open;close;close");
                    market.writeBook();
                    Markets.typed(market, "clos");
                    market.undo();
                    notUndone("undo", market);
                    market.save();
                    notUndone("save", market);
                    market.restore();
                    notUndone("restore", market);
                    Check.due("the buffer", 5, market.type('e'));
                });
    }

    private static void notUndone(String what, DropMarket market) {
        Check.due(what + " leaves the error position", 5, market.errorPosition());
        Check.due(what + " leaves the index", 2, market.failedCommand());
        Check.due(what + " leaves the line", "-/-", Picture.line(market));
    }

    private static void exceptions() {
        term("A method that throws an exception leaves the state unchanged, except that execute empties the text "
                + "buffer.", () -> {
                    Refusal.ALL.forEach(refusal -> Trace.refused(refusal.name(), refusal.made(), refusal.thrown(),
                            refusal.call()));
                    emptiesTheBuffer("open;x", IllegalArgumentException.class);
                    emptiesTheBuffer("pass 1;open;close;close", STATE);
                });
        term("If several exceptions apply, the one that is documented first is thrown.", () -> {
            for (Way way : Way.values()) {
                severalOfAnOrder(way);
            }
            Check.throwing("addStall", IllegalArgumentException.class, () -> Markets.rich(6).addStall(-1, 0));
            Check.throwing("addStall", IllegalArgumentException.class, () -> Markets.rich(6).addStall(0, 1000));
            DropMarket typed = Markets.typed(new DropMarket(), "x".repeat(60));
            Check.throwing("type", IllegalArgumentException.class, () -> typed.type((char) 127));
            Check.throwing("execute", IllegalArgumentException.class,
                    () -> Markets.executed(new DropMarket(), "close;x"));
        });
    }

    private static void emptiesTheBuffer(String text, Class<? extends Exception> thrown) {
        DropMarket market = Refusal.busy();
        Check.throwing(text, thrown, () -> Markets.executed(market, text));
        Check.due(text + " changes nothing else", Trace.ofState(Refusal.busy()), Trace.ofState(market));
        DropMarket emptied = new DropMarket();
        Markets.answerOf(emptied, text);
        Check.due(text + " is gone", 1, emptied.type('x'));
    }

    private static void severalOfAnOrder(Way way) {
        Supplier<DropMarket> hindered = way.takes() ? Markets::fullAndOpen : Markets::full;
        Class<? extends Exception> noStall = IndexOutOfBoundsException.class;
        Class<? extends Exception> range = IllegalArgumentException.class;
        Check.throwing(way.label + " all", noStall, () -> way.give(hindered.get(), 4, 0, 51, 0));
        Check.throwing(way.label + " stall and price", noStall, () -> way.give(Markets.rich(1), 1, 100, 1));
        Check.throwing(way.label + " stall and quantity", noStall, () -> way.give(Markets.rich(1), -1, 1, 0));
        Check.throwing(way.label + " stall and state", noStall, () -> way.give(hindered.get(), 4, 1, 1));
        Check.throwing(way.label + " price and all behind", range, () -> way.give(hindered.get(), 3, 100, 1));
        Check.throwing(way.label + " quantity and all behind", range, () -> way.give(hindered.get(), 3, 1, 51));
        Check.throwing(way.label + " price and short", range, () -> way.give(Markets.withOne(0, 0), 0, 0, 1));
        Check.throwing(way.label + " quantity and short", range, () -> way.give(Markets.withOne(0, 0), 0, 1, 0));
        Check.throwing(way.label + " state and short", STATE, () -> way.give(hindered.get(), 3, 1, 1));
        if (way.expires()) {
            Check.throwing(way.label + " stall and minutes", noStall, () -> way.give(Markets.rich(1), 1, 1, 1, 0));
            Check.throwing(way.label + " minutes and all behind", range, () -> way.give(hindered.get(), 3, 1, 1, 61));
            Check.throwing(way.label + " minutes and short", range, () -> way.give(Markets.withOne(0, 0), 0, 1, 1, 0));
        }
    }
}
