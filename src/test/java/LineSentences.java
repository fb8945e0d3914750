import java.util.NoSuchElementException;

/** Promises 45 to 48, sentence by sentence. */
final class LineSentences {
    private LineSentences() {
    }

    static void test() {
        orders();
        books();
        characters();
        consistency();
    }

    private static void orders() {
        Sentence.holds(45, "Writes an order into the line, which replaces the previous line: its number, \"b\" if it "
                + "buys or \"s\" if it sells, its quantity, \"x\" and its price; for example \"17b3x25\".", () -> {
                    DropMarket market = small();
                    Check.due("the least numbers", "0b1x1", Markets.writtenOrder(market, 0));
                    Check.due("the greatest numbers", "1s50x99", Markets.writtenOrder(market, 1));
                    Check.due("a shorter line replaces a longer one", "0b1x1", Markets.writtenOrder(market, 0));
                    market.takeBuy(0, 99, 45);
                    Check.due("what is left", "1s5x99", Markets.writtenOrder(market, 1));
                    takes(market, 14);
                    market.placeBuy(0, 25, 3);
                    Check.due("the document's example", "17b3x25", Markets.writtenOrder(market, 17));
                });
        Sentence.holds(45, "`order`: number of the order", () -> {
            DropMarket market = small();
            takes(market, 97);
            market.placeBuy(0, 2, 1);
            market.placeBuy(0, 3, 1);
            Check.due("two digits", "99b1x2", Markets.writtenOrder(market, 99));
            Check.due("three digits", "100b1x3", Markets.writtenOrder(market, 100));
        });
        Sentence.holds(45, "Returns the length of the line.", () -> {
            DropMarket market = small();
            Check.due("the least", 5, market.writeOrder(0));
            takes(market, 100);
            market.placeSell(0, 98, 50);
            Check.due("three digits", 9, market.writeOrder(102));
        });
        Sentence.holds(45, "Throws `NoSuchElementException` if there is no such order", () -> {
            MissingOrders.refused(DropMarket::writeOrder);
            DropMarket market = small();
            market.writeOrder(1);
            Check.throwing("order 2", NoSuchElementException.class, () -> market.writeOrder(2));
            Check.due("the line stays", "1s50x99", Picture.line(market));
        });
    }

    /** Order 0 buys 1 at 1, and order 1 sells 50 at 99. */
    private static DropMarket small() {
        DropMarket market = Markets.rich(1);
        market.placeBuy(0, 1, 1);
        market.placeSell(0, 99, 50);
        return market;
    }

    /** Each takes a number and trades nothing. */
    private static void takes(DropMarket market, int times) {
        for (int i = 0; i < times; i++) {
            market.takeBuy(0, 2, 1);
        }
    }

    private static void books() {
        Sentence.holds(46, "Writes the best prices into the line, which replaces the previous line: the quantity of "
                + "all buying orders with the best price, \"x\" and this price, or \"-\" if there is no buying order; "
                + "\"/\"; and the same for the selling orders; for example \"5x24/-\".", () -> {
                    Check.due("of a new market", "-/-", Markets.writtenBook(new DropMarket()));
                    Check.due("of both sides", "1x1/50x99", Markets.writtenBook(small()));
                    Check.due("of a full book", "1x19/1x30", Markets.writtenBook(Markets.full()));
                    Check.due("in an open pool", "1x19/1x30", Markets.writtenBook(Markets.fullAndOpen()));
                    oneSide();
                    severalOrders();
                });
        Sentence.holds(46, "Returns the length of the line.", () -> {
            Check.due("the least", 3, new DropMarket().writeBook());
            DropMarket market = Markets.opened(1);
            for (int i = 0; i < 10; i++) {
                market.placeSell(0, 99, 50);
                market.placeBuy(0, 10, 50);
            }
            Check.due("500x10/500x99", 13, market.writeBook());
            Check.due("it is the same again", 13, market.writeBook());
        });
    }

    private static void oneSide() {
        DropMarket market = Markets.rich(1);
        market.placeBuy(0, 24, 5);
        Check.due("the document's example", "5x24/-", Markets.writtenBook(market));
        market.cancel(0);
        Check.due("a shorter line replaces a longer one", "-/-", Markets.writtenBook(market));
        market.placeSell(0, 24, 5);
        Check.due("selling orders alone", "-/5x24", Markets.writtenBook(market));
        DropMarket greatest = Markets.rich(2);
        for (int i = 0; i < 20; i++) {
            greatest.placeBuy(i % 2, 1, 50);
        }
        Check.due("20 orders of one price", "1000x1/-", Markets.writtenBook(greatest));
    }

    private static void severalOrders() {
        DropMarket market = Markets.opened(1);
        market.placeBuy(0, 40, 2);
        market.placeBuy(0, 41, 3);
        market.placeBuy(0, 41, 4);
        market.placeSell(0, 41, 5);
        market.placeSell(0, 41, 6);
        market.placeSell(0, 42, 7);
        Check.due("both sides have one price", "7x41/11x41", Markets.writtenBook(market));
    }

    private static void characters() {
        Sentence.holds(47, "Returns a character of the line, which is empty at first.", () -> {
            Check.due("at first", "", Picture.line(new DropMarket()));
            Check.due("calls that write nothing", "", Picture.line(Markets.full()));
            DropMarket market = small();
            market.writeOrder(1);
            market.cancel(1);
            market.undo();
            Check.due("it stays until it is written again", "1s50x99", Picture.line(market));
        });
        Sentence.holds(47, "`index`: index of the character, from 0", () -> {
            DropMarket market = small();
            int length = market.writeOrder(1);
            Check.due("the first", '1', market.lineAt(0));
            Check.due("the last", '9', market.lineAt(length - 1));
            Check.due("the one before", '9', market.lineAt(length - 2));
            Check.due("the sign", 'x', market.lineAt(length - 3));
        });
        Sentence.holds(47, "Returns the character.", () -> {
            DropMarket market = new DropMarket();
            market.writeBook();
            Check.due("the first", '-', market.lineAt(0));
            Check.due("in the middle", '/', market.lineAt(1));
        });
        Sentence.holds(47, "Throws `IndexOutOfBoundsException` if there is no such character", () -> {
            noCharacter(0, 0);
            noCharacter(0, -1);
            noCharacter(3, -1);
            noCharacter(3, 3);
            noCharacter(3, 4);
            for (int far : Markets.FAR_NUMBERS) {
                noCharacter(3, far);
            }
            DropMarket market = small();
            market.writeOrder(1);
            market.writeOrder(0);
            Check.throwing("behind a line that is shorter now", IndexOutOfBoundsException.class,
                    () -> market.lineAt(5));
        });
    }

    private static void noCharacter(int length, int index) {
        Trace.refused("character " + index + " of " + length, () -> {
            DropMarket market = new DropMarket();
            if (length > 0) {
                market.writeBook();
            }
            return market;
        }, IndexOutOfBoundsException.class, market -> market.lineAt(index));
    }

    private static void consistency() {
        Sentence.holds(48, "Returns whether the market is consistent: spread and spreadBySums, and poolPrice and "
                + "poolPriceBySums, agree or find nothing, and no stall has negative free money or negative free "
                + "drops.", () -> {
                    Check.due("of a new market", true, new DropMarket().isConsistent());
                    Check.due("both spreads, no price", true, Markets.full().isConsistent());
                    DropMarket market = Markets.opened(1);
                    market.placeBuy(0, 99, 1);
                    Check.due("one side alone", true, market.isConsistent());
                    market.placeSell(0, 1, 1);
                    Check.due("a negative spread and a price", true, market.isConsistent());
                    market.placeBuy(0, 1, 1);
                    market.placeSell(0, 99, 1);
                    Check.due("all edges of prices", true, market.isConsistent());
                });
        Sentence.holds(48, "Returns whether this holds.", () -> {
            Check.due("stalls without money and drops", true, Markets.withOne(0, 0).isConsistent());
            DropMarket market = Markets.withOne(4950, 50);
            market.placeBuy(0, 98, 50);
            market.placeSell(0, 99, 50);
            market.placeBuy(0, 1, 50);
            Check.due("all is bound", true, market.isConsistent());
        });
    }
}
