import java.util.List;
import java.util.function.Consumer;

/** Promises 53 to 55: undo and snapshots. */
public final class UndoTest {
    private static final Class<IllegalStateException> STATE = IllegalStateException.class;
    private static final List<Consumer<DropMarket>> MODIFICATIONS = List.of(
            market -> market.addStall(7, 8),
            market -> market.placeBuy(0, 10, 5),
            market -> market.placeSell(1, 9, 3),
            market -> market.placeBuyFor(1, 12, 2, 2),
            market -> market.placeSellFor(0, 30, 6, 9),
            market -> market.takeBuy(1, 30, 1),
            market -> market.takeSell(1, 12, 1),
            market -> market.takeSell(1, 99, 1),
            market -> market.cancel(0),
            market -> market.pass(1),
            market -> market.openPool(),
            market -> market.placeBuy(0, 40, 20),
            market -> market.pass(1),
            market -> market.closePool(),
            market -> Markets.executed(market, "open;buy 0 10 9;sell 1 10 8;close;pass 1"));
    private static final int COUNT = MODIFICATIONS.size();

    public static void main(String[] args) {
        undoOfEachModification();
        eightModifications();
        undoAndGoOn();
        onlyModificationsCount();
        snapshots();
        snapshotIsKept();
        wholeStateComesBack();
        Check.end("UndoTest");
    }

    private static DropMarket rich() {
        DropMarket market = new DropMarket();
        market.addStall(9999, 999);
        market.addStall(9999, 999);
        return market;
    }

    private static void type(DropMarket market, String text) {
        for (char sign : text.toCharArray()) {
            market.type(sign);
        }
    }

    /** The modifications from one index up to another, which each change what those before them left. */
    private static void modify(DropMarket market, int from, int to) {
        MODIFICATIONS.subList(from, to).forEach(modification -> modification.accept(market));
    }

    private static void undoOfEachModification() {
        DropMarket empty = rich();
        Check.due("P53 two stalls", 1, empty.undo());
        Check.due("P53 one stall", 0, empty.undo());
        Check.refused("P53 none is left", empty, STATE, empty::undo);
        for (int done = 0; done < COUNT; done++) {
            DropMarket market = rich();
            modify(market, 0, done);
            String before = Picture.of(market);
            modify(market, done, done + 1);
            String after = Picture.of(market);
            Check.due("P53 undo after " + done, Math.min(2 + done, 7), market.undo());
            Check.due("P53 state after " + done, before, Picture.of(market));
            modify(market, done, done + 1);
            Check.due("P53 the same once more after " + done, after, Picture.of(market));
        }
    }

    private static void eightModifications() {
        for (int undone = 1; undone <= 8; undone++) {
            DropMarket market = rich();
            modify(market, 0, COUNT);
            Markets.undo(market, undone - 1);
            Check.due("P53 undo", 8 - undone, market.undo());
            DropMarket due = rich();
            modify(due, 0, COUNT - undone);
            Check.due("P53 state", Picture.of(due), Picture.of(market));
        }
        DropMarket market = rich();
        modify(market, 0, COUNT);
        Markets.undo(market, 8);
        Check.refused("P53 a ninth", market, STATE, market::undo);
    }

    private static void undoAndGoOn() {
        DropMarket market = rich();
        for (int i = 0; i < 10; i++) {
            Check.due("number", i, market.placeBuy(0, 1 + i, 1));
        }
        for (int i = 0; i < 5; i++) {
            market.undo();
        }
        Check.due("P53 the number comes back", 5, market.placeSell(0, 50, 1));
        Check.due("P53 the new one is undone", 3, market.undo());
        Check.due("P53 five orders stay", 5, market.orderCount());
        for (int left = 2; left >= 0; left--) {
            Check.due("P53 the older ones", left, market.undo());
        }
        Check.due("P53 two orders stay", 2, market.orderCount());
        Check.refused("P53 none is left", market, STATE, market::undo);
        for (int round = 0; round < 20; round++) {
            market.pass(1);
        }
        for (int left = 7; left >= 0; left--) {
            Check.due("P53 eight again", left, market.undo());
        }
        Check.due("P53 twelve minutes stay", 12, market.time());
    }

    private static void onlyModificationsCount() {
        DropMarket market = rich();
        market.placeBuy(0, 10, 5);
        Check.answer(() -> market.addStall(-1, 0));
        Check.answer(() -> market.placeBuy(0, 0, 0));
        Check.answer(() -> market.placeSellFor(0, 1, 1, 0));
        Check.answer(() -> market.takeSell(5, 1, 1));
        Check.answer(() -> market.cancel(7));
        Check.answer(() -> market.pass(0));
        Check.answer(market::closePool);
        Check.answer(market::restore);
        Check.answer(market::execute);
        type(market, "pass 1;close");
        Check.answer(market::execute);
        market.writeBook();
        market.save();
        Picture.of(market);
        Check.due("P53 the order is undone", 2, market.undo());
        Check.due("P53 no order", 0, market.orderCount());
        Check.due("P53 a take without trade counts", 0, market.takeBuy(0, 1, 1));
        Check.due("P53 it is undone", 2, market.undo());
        Check.due("P53 its number comes back", 0, market.placeBuy(0, 1, 1));
    }

    private static void snapshots() {
        DropMarket market = rich();
        Check.refused("P55 no snapshot", market, STATE, market::restore);
        market.placeBuy(0, 10, 5);
        market.placeSell(1, 20, 5);
        Check.due("P54 save", 2, market.save());
        Check.due("P53 save is no modification", 3, market.undo());
        Check.due("P53 nothing of the snapshot", 1, market.orderCount());
        Check.due("P55 restore", 2, market.restore());
        Check.refused("P55 nothing can be undone", market, STATE, market::undo);
        Check.due("P55 the number comes back", 2, market.placeBuy(0, 1, 1));
        Check.due("P53 undone after a restore", 0, market.undo());
        Check.refused("P53 not beyond the restore", market, STATE, market::undo);
        Check.due("P55 the orders stay", 2, market.orderCount());
    }

    private static void snapshotIsKept() {
        DropMarket market = new DropMarket();
        Check.due("P54 of a new object", 0, market.save());
        market.addStall(5, 5);
        market.pass(7);
        Check.due("P55 of a new object", 0, market.restore());
        Check.due("P55 no stall", 0, market.stallCount());
        Check.due("P55 no money", 0, market.totalMoney());
        market.addStall(6, 6);
        market.placeBuy(0, 2, 3);
        Check.due("P55 once more", 0, market.restore());
        Check.due("P55 time", 0, market.time());
        market.addStall(9, 9);
        market.placeSell(0, 2, 3);
        Check.due("P54 replaces the snapshot", 1, market.save());
        market.cancel(0);
        Check.due("P55 the later snapshot", 1, market.restore());
        Check.due("P55 its order", 3, market.quantityOf(0));
        market.takeBuy(0, 2, 1);
        Check.due("P55 the snapshot is no part of what changes", 1, market.restore());
        Check.due("P55 its order", 3, market.quantityOf(0));
    }

    private static void wholeStateComesBack() {
        for (int done = 0; done < COUNT; done++) {
            DropMarket market = rich();
            modify(market, 0, done);
            market.save();
            String saved = Picture.of(market);
            modify(market, done, done + 1);
            String after = Picture.of(market);
            market.pass(60);
            market.addStall(1, 1);
            market.restore();
            Check.due("P55 the state comes back", saved, Picture.of(market));
            modify(market, done, done + 1);
            Check.due("P55 and goes on", after, Picture.of(market));
        }
    }
}
