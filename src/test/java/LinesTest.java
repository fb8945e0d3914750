import java.util.NoSuchElementException;

/** Promises 45 to 48: the line, and the check of the market. */
public final class LinesTest {
    private static final Class<IndexOutOfBoundsException> NO_CHARACTER = IndexOutOfBoundsException.class;

    public static void main(String[] args) {
        emptyLine();
        linesOfOrders();
        linesOfBooks();
        lineIsReplaced();
        lineIsNoState();
        consistency();
        Check.end("LinesTest");
    }

    private static DropMarket rich() {
        DropMarket market = new DropMarket();
        market.addStall(9999, 999);
        market.addStall(9999, 999);
        return market;
    }

    private static void written(String what, DropMarket market, int length, String line) {
        Check.due(what + " length", line.length(), length);
        Check.due(what, line, Picture.line(market));
        Check.throwing(what + " ends", NO_CHARACTER, () -> market.lineAt(line.length()));
        Check.throwing(what + " begins", NO_CHARACTER, () -> market.lineAt(-1));
    }

    private static void emptyLine() {
        DropMarket market = new DropMarket();
        Check.unchanged("P47 empty at first", market, () -> {
            for (int index : new int[] {0, 1, -1, Integer.MIN_VALUE, Integer.MAX_VALUE}) {
                Check.throwing("P47 empty at first", NO_CHARACTER, () -> market.lineAt(index));
            }
        });
        Check.refused("P45 no order", market, NoSuchElementException.class, () -> market.writeOrder(0));
        written("P46 no orders", market, market.writeBook(), "-/-");
        Check.due("P47 lineAt", '/', market.lineAt(1));
    }

    private static void linesOfOrders() {
        DropMarket market = rich();
        market.placeBuy(0, 25, 3);
        market.placeSell(1, 99, 50);
        written("P45 a buying order", market, market.writeOrder(0), "0b3x25");
        written("P45 a selling order", market, market.writeOrder(1), "1s50x99");
        for (int i = 2; i < 17; i++) {
            market.takeBuy(0, 1, 1);
        }
        market.placeBuy(1, 25, 3);
        written("P45 the document's example", market, market.writeOrder(17), "17b3x25");
        market.takeSell(0, 25, 4);
        written("P45 what is left", market, market.writeOrder(17), "17b2x25");
        for (int i = 19; i < 105; i++) {
            market.takeBuy(0, 1, 1);
        }
        market.placeSell(0, 40, 10);
        written("P45 a number of three digits", market, market.writeOrder(105), "105s10x40");
        Check.unchanged("P45 writeOrder", market, () -> {
            for (int order : new int[] {0, 16, 106, -1, Integer.MIN_VALUE, Integer.MAX_VALUE}) {
                Check.throwing("P45 order " + order, NoSuchElementException.class, () -> market.writeOrder(order));
            }
        });
    }

    private static void linesOfBooks() {
        DropMarket market = rich();
        market.placeBuy(0, 24, 2);
        written("P46 buying orders alone", market, market.writeBook(), "2x24/-");
        market.placeBuy(1, 24, 3);
        market.placeBuy(1, 23, 9);
        written("P46 the document's example", market, market.writeBook(), "5x24/-");
        market.placeSell(1, 99, 50);
        market.placeSell(0, 99, 50);
        market.placeSell(0, 99, 1);
        written("P46 both sides", market, market.writeBook(), "5x24/101x99");
        market.placeSell(1, 98, 4);
        written("P46 the best price alone", market, market.writeBook(), "5x24/4x98");
        market.takeSell(0, 1, 14);
        written("P46 selling orders alone", market, market.writeBook(), "-/4x98");
        DropMarket full = rich();
        for (int i = 0; i < 19; i++) {
            full.placeSell(0, 9, 50);
        }
        full.placeBuy(1, 1, 1);
        written("P46 many orders at one price", full, full.writeBook(), "1x1/950x9");
    }

    private static void lineIsReplaced() {
        DropMarket market = rich();
        market.placeBuy(0, 24, 10);
        market.placeSell(0, 30, 10);
        written("P46 long", market, market.writeBook(), "10x24/10x30");
        written("P45 shorter", market, market.writeOrder(0), "0b10x24");
        Check.refused("P45 fails", market, NoSuchElementException.class, () -> market.writeOrder(2));
        market.cancel(0);
        market.cancel(1);
        Check.due("P47 the line stays as it was written", "0b10x24", Picture.line(market));
        written("P46 shortest", market, market.writeBook(), "-/-");
    }

    private static void lineIsNoState() {
        DropMarket market = rich();
        market.save();
        market.placeBuy(0, 24, 10);
        market.writeOrder(0);
        market.undo();
        Check.due("P47 undo leaves the line", "0b10x24", Picture.line(market));
        market.restore();
        Check.due("P47 restore leaves the line", "0b10x24", Picture.line(market));
        Check.due("P53 writing is no modification", "throws IllegalStateException", Check.answer(market::undo));
    }

    private static void consistency() {
        DropMarket market = new DropMarket();
        Check.due("P48 at first", true, market.isConsistent());
        market.addStall(0, 0);
        market.addStall(500, 10);
        Check.due("P48 without orders", true, market.isConsistent());
        market.placeBuy(1, 50, 10);
        Check.due("P48 all money is bound", true, market.isConsistent());
        market.openPool();
        market.placeSell(1, 40, 10);
        Check.due("P48 all drops are bound", true, market.isConsistent());
        market.closePool();
        Check.due("P48 after the pool", true, market.isConsistent());
    }
}
