import java.util.function.Supplier;

/** Promises 53 to 55, sentence by sentence. */
final class UndoSentences {
    private static final Class<IllegalStateException> STATE = IllegalStateException.class;

    private UndoSentences() {
    }

    static void test() {
        undoing();
        nothingToUndo();
        saving();
        restoring();
    }

    private static void undoing() {
        Sentence.holds(53, "Undoes the last modification that can be undone.", () -> {
            for (Modification modification : Modification.ALL) {
                DropMarket undone = modification.made().get();
                modification.call().apply(undone);
                undone.undo();
                Check.due(modification.name() + " undone", Trace.of(modification.made().get()), Trace.of(undone));
            }
            DropMarket market = new DropMarket();
            market.pass(1);
            market.pass(2);
            market.undo();
            market.pass(4);
            market.undo();
            Check.due("the older one is left", 1, market.time());
            market.undo();
            Check.due("and undone at last", 0, market.time());
        });
        Sentence.holds(53, "Returns the number of modifications that can still be undone.", () -> {
            for (int done = 1; done <= 20; done++) {
                DropMarket market = passed(done);
                for (int left = Math.min(done, 8) - 1; left >= 0; left--) {
                    Check.due("after " + done, left, market.undo());
                }
                Check.due("what is left of " + done, Math.max(done - 8, 0), market.time());
            }
            DropMarket market = passed(8);
            Check.due("eight", 7, market.undo());
            market.pass(1);
            market.pass(1);
            Check.due("eight again", 7, market.undo());
            Markets.undo(market, 5);
            Check.due("the next to last", 1, market.undo());
            market.pass(1);
            Check.due("one more", 1, market.undo());
            Check.due("the last", 0, market.undo());
        });
    }

    private static DropMarket passed(int times) {
        DropMarket market = new DropMarket();
        for (int i = 0; i < times; i++) {
            market.pass(1);
        }
        return market;
    }

    private static void nothingToUndo() {
        Sentence.holds(53, "Throws `IllegalStateException` if there is none", () -> {
            Trace.refused("a new market", DropMarket::new, STATE, DropMarket::undo);
            for (int done : new int[] {1, 7, 8, 9, 16, 17}) {
                Trace.refused("after " + done + " all is undone", () -> {
                    DropMarket market = passed(done);
                    Markets.undo(market, Math.min(done, 8));
                    return market;
                }, STATE, DropMarket::undo);
            }
            Trace.refused("refused calls and questions", UndoSentences::withoutModification, STATE, DropMarket::undo);
            Trace.refused("after a restore", () -> restored(passed(8)), STATE, DropMarket::undo);
        });
    }

    private static DropMarket withoutModification() {
        DropMarket market = new DropMarket();
        Check.answer(() -> market.addStall(-1, 0));
        Check.answer(() -> market.pass(0));
        Check.answer(market::closePool);
        Check.answer(() -> Markets.executed(market, "open;open"));
        Check.answer(() -> Markets.executed(market, "open;"));
        market.writeBook();
        market.save();
        market.type('x');
        return market;
    }

    private static DropMarket restored(DropMarket market) {
        market.save();
        market.restore();
        return market;
    }

    private static void saving() {
        Sentence.holds(54, "Saves the state as a snapshot, which replaces an earlier snapshot.", () -> {
            DropMarket market = passed(1);
            market.save();
            market.pass(2);
            market.save();
            market.pass(4);
            market.restore();
            Check.due("the later one", 3, market.time());
            DropMarket saved = passed(3);
            saved.save();
            Check.due("saving is no modification", 2, saved.undo());
            Check.due("the last pass is undone", 2, saved.time());
            saved.restore();
            Check.due("the snapshot stays", 3, saved.time());
            for (Modification modification : Modification.ALL) {
                savedAndChanged(modification);
            }
        });
        Sentence.holds(54, "Returns the number of orders.", () -> {
            Check.due("none", 0, new DropMarket().save());
            Check.due("as many as can be", 20, Markets.full().save());
            Check.due("in a pool", 20, Markets.fullAndOpen().save());
        });
    }

    /** Restored after a modification, the market answers like one that was restored at once. */
    private static void savedAndChanged(Modification modification) {
        DropMarket market = modification.made().get();
        market.save();
        modification.call().apply(market);
        market.restore();
        Check.due(modification.name() + " and restore", Trace.of(restored(modification.made().get())),
                Trace.of(market));
    }

    private static void restoring() {
        Sentence.holds(55, "Restores the snapshot, which is kept.", () -> {
            DropMarket market = restored(passed(1));
            for (int round = 0; round < 3; round++) {
                market.pass(60);
                market.restore();
                Check.due("time", 1, market.time());
            }
            DropMarket empty = new DropMarket();
            empty.save();
            Trace.of(filled(empty));
            empty.restore();
            Check.due("a snapshot of a new market", 0, empty.stallCount() + empty.orderCount() + empty.tradeCount());
        });
        Sentence.holds(55, "Afterwards nothing can be undone.", () -> {
            for (int done : new int[] {0, 1, 8, 9}) {
                DropMarket market = restored(passed(done));
                Check.throwing("after " + done, STATE, market::undo);
                market.pass(60);
                Check.due("the only one since then", 0, market.undo());
                Check.due("time", done, market.time());
                Check.throwing("none before it", STATE, market::undo);
            }
            DropMarket again = restored(passed(1));
            again.pass(1);
            again.restore();
            Check.throwing("after a second restore", STATE, again::undo);
        });
        Sentence.holds(55, "Returns the number of orders.", () -> {
            Supplier<DropMarket> full = () -> {
                DropMarket market = Markets.fullAndOpen();
                market.save();
                market.closePool();
                return market;
            };
            Check.due("as many as can be", 20, full.get().restore());
            DropMarket market = new DropMarket();
            market.save();
            Check.due("none", 0, filled(market).restore());
        });
        Sentence.holds(55, "Throws `IllegalStateException` if there is no snapshot", () -> {
            Trace.refused("a new market", DropMarket::new, STATE, DropMarket::restore);
            Trace.refused("after nine modifications", () -> passed(9), STATE, DropMarket::restore);
        });
    }

    private static DropMarket filled(DropMarket market) {
        market.addStall(9999, 999);
        Markets.traded(market, 40, 3);
        market.placeBuy(0, 1, 1);
        market.openPool();
        return market;
    }
}
