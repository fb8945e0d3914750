import java.util.NoSuchElementException;
import java.util.function.BiFunction;

/** Promises 1, 2 and 13 to 20, sentence by sentence. */
final class StallSentences {
    private static final String NO_STALL = "Throws `IndexOutOfBoundsException` if there is no such stall";
    private static final String STALL = "`stall`: number of the stall";

    private StallSentences() {
    }

    static void test() {
        newObject();
        addStall();
        counting();
        accounts();
        freeAccounts();
        totals();
        ranks();
    }

    private static void newObject() {
        Sentence.holds(1, "Creates a market without stalls and orders at minute 0, with the pool closed.", () -> {
            Trace.of(Markets.fullAndOpen());
            DropMarket market = new DropMarket();
            Check.due("stalls", 0, market.stallCount());
            Check.due("orders", 0, market.orderCount());
            Check.due("minute", 0, market.time());
            Check.due("pool", false, market.isPoolOpen());
            Check.due("trades", 0, market.tradeCount());
            Check.due("line", "", Picture.line(market));
            Check.throwing("nothing to undo", IllegalStateException.class, market::undo);
            Check.throwing("no snapshot", IllegalStateException.class, market::restore);
            Check.due("an empty buffer", 1, market.type('o'));
            market.addStall(1, 1);
            Check.due("the first number", 0, market.placeBuy(0, 1, 1));
        });
    }

    private static void addStall() {
        Sentence.holds(2, "Adds a stall.", () -> {
            DropMarket market = Markets.withOne(70, 8);
            market.addStall(9, 10);
            Check.due("stalls", 2, market.stallCount());
            Check.due("the first one's money stays", 70, market.moneyOf(0));
            Check.due("money", 9, market.moneyOf(1));
            Check.due("drops", 10, market.dropsOf(1));
            Check.due("free money", 9, market.freeMoneyOf(1));
            Check.due("free drops", 10, market.freeDropsOf(1));
        });
        Sentence.holds(2, "`money`: its money, 0 to 9999", () -> edges(9999, Markets::withOne, DropMarket::moneyOf));
        Sentence.holds(2, "`drops`: its drops, 0 to 999",
                () -> edges(999, (drops, money) -> Markets.withOne(money, drops), DropMarket::dropsOf));
        Sentence.holds(2, "Returns the number of the stall.", () -> {
            DropMarket market = new DropMarket();
            for (int stall = 0; stall < 6; stall++) {
                Check.due("stall", stall, market.addStall(0, 0));
            }
            Markets.undo(market, 2);
            Check.due("after undo", 4, market.addStall(0, 0));
        });
        Sentence.holds(2, "Throws `IllegalArgumentException` if a number is out of range", () -> {
            int[][] wrong = {{-1, 0}, {10000, 0}, {0, -1}, {0, 1000}, {-1, 1000}, {10000, -1}};
            for (int[] pair : wrong) {
                refusedStall(0, pair[0], pair[1], IllegalArgumentException.class);
            }
            for (int far : Markets.FAR_NUMBERS) {
                refusedStall(5, far, 0, IllegalArgumentException.class);
                refusedStall(5, 0, far, IllegalArgumentException.class);
            }
        });
        Sentence.holds(2, "Throws `IllegalStateException` if there are 6 stalls", () -> {
            Check.due("with 5 stalls", 5, Markets.rich(5).addStall(0, 0));
            refusedStall(6, 0, 0, IllegalStateException.class);
            refusedStall(6, 9999, 999, IllegalStateException.class);
        });
    }

    /** The least and the greatest number are taken, the ones beside them are not. */
    private static void edges(int greatest, BiFunction<Integer, Integer, DropMarket> made,
            BiFunction<DropMarket, Integer, Integer> asked) {
        for (int number : new int[] {0, 1, greatest - 1, greatest}) {
            Check.due("of " + number, number, asked.apply(made.apply(number, 0), 0));
            Check.due("of " + number + " and 999", number, asked.apply(made.apply(number, 999), 0));
        }
        for (int number : new int[] {-1, greatest + 1}) {
            Check.throwing("of " + number, IllegalArgumentException.class, () -> made.apply(number, 5));
        }
    }

    private static void refusedStall(int stalls, int money, int drops, Class<? extends Exception> want) {
        Trace.refused("addStall(" + money + ", " + drops + ") with " + stalls + " stalls",
                () -> Markets.rich(stalls), want, market -> market.addStall(money, drops));
    }

    private static void counting() {
        Sentence.holds(13, "Returns the number of stalls.", () -> {
            DropMarket market = new DropMarket();
            Check.due("none", 0, market.stallCount());
            for (int stalls = 1; stalls <= 6; stalls++) {
                market.addStall(0, 0);
                Check.due("stalls", stalls, market.stallCount());
            }
            Check.answer(() -> market.addStall(0, 0));
            Check.due("a refused one does not count", 6, market.stallCount());
            market.undo();
            Check.due("an undone one does not count", 5, market.stallCount());
        });
    }

    private static void accounts() {
        Sentence.holds(14, "Returns the money of a stall.", () -> {
            Check.due("none", 0, Markets.withOne(0, 9).moneyOf(0));
            Check.due("all is spent", 0, afterTrade().moneyOf(0));
            Check.due("more than a new stall has", 9999 + 4950, afterTrade().moneyOf(1));
            DropMarket bound = Markets.withOne(4950, 0);
            bound.placeBuy(0, 99, 50);
            Check.due("bound money counts", 4950, bound.moneyOf(0));
        });
        Sentence.holds(14, "Returns the money.", () -> Check.due("money", 7, Markets.withOne(7, 8).moneyOf(0)));
        Sentence.holds(14, STALL, () -> stallEdges(DropMarket::moneyOf, 10));
        Sentence.holds(14, NO_STALL, () -> noStall(DropMarket::moneyOf));
        Sentence.holds(15, "Returns the drops of a stall.", () -> {
            Check.due("none", 0, Markets.withOne(9, 0).dropsOf(0));
            Check.due("all are sold", 0, afterTrade().dropsOf(1));
            Check.due("more than a new stall has", 999 + 50, afterTrade().dropsOf(0));
            DropMarket bound = Markets.withOne(0, 50);
            bound.placeSell(0, 99, 50);
            Check.due("bound drops count", 50, bound.dropsOf(0));
        });
        Sentence.holds(15, "Returns the number of drops.",
                () -> Check.due("drops", 8, Markets.withOne(7, 8).dropsOf(0)));
        Sentence.holds(15, STALL, () -> stallEdges(DropMarket::dropsOf, 20));
        Sentence.holds(15, NO_STALL, () -> noStall(DropMarket::dropsOf));
    }

    /** Stall 0 has paid all that it had, and stall 1 has sold all that it had. */
    private static DropMarket afterTrade() {
        DropMarket market = Markets.withOne(4950, 999);
        market.addStall(9999, 50);
        market.placeSell(1, 99, 50);
        market.takeBuy(0, 99, 50);
        return market;
    }

    private static void stallEdges(BiFunction<DropMarket, Integer, Integer> asked, int first) {
        DropMarket market = new DropMarket();
        for (int stall = 0; stall < 6; stall++) {
            market.addStall(10 + stall, 20 + stall);
        }
        for (int stall = 0; stall < 6; stall++) {
            Check.due("of stall " + stall, first + stall, asked.apply(market, stall));
        }
    }

    private static void noStall(BiFunction<DropMarket, Integer, Integer> asked) {
        for (int stalls = 0; stalls <= 6; stalls++) {
            refusedNumber(asked, stalls, -1);
            refusedNumber(asked, stalls, stalls);
            refusedNumber(asked, stalls, 6);
        }
        for (int far : Markets.FAR_NUMBERS) {
            refusedNumber(asked, 6, far);
        }
        DropMarket undone = Markets.rich(2);
        undone.undo();
        Check.throwing("an undone stall", IndexOutOfBoundsException.class, () -> asked.apply(undone, 1));
    }

    private static void refusedNumber(BiFunction<DropMarket, Integer, Integer> asked, int stalls, int stall) {
        Trace.refused("stall " + stall + " of " + stalls, () -> Markets.rich(stalls),
                IndexOutOfBoundsException.class, market -> asked.apply(market, stall));
    }

    private static void freeAccounts() {
        Sentence.holds(16, "Returns the free money of a stall.", () -> {
            DropMarket market = Markets.withOne(4950, 999);
            Check.due("nothing is bound", 4950, market.freeMoneyOf(0));
            market.placeSell(0, 99, 50);
            Check.due("selling binds no money", 4950, market.freeMoneyOf(0));
            market.cancel(0);
            market.placeBuyFor(0, 99, 50, 2);
            Check.due("all is bound", 0, market.freeMoneyOf(0));
            market.takeSell(0, 1, 49);
            Check.due("what is left is bound", 4950 - 99, market.freeMoneyOf(0));
            market.pass(2);
            Check.due("an expired order binds nothing", 4950, market.freeMoneyOf(0));
        });
        Sentence.holds(16, "Returns the money.", () -> {
            DropMarket market = Markets.withOne(100, 0);
            market.placeBuy(0, 9, 11);
            Check.due("one is left", 1, market.freeMoneyOf(0));
        });
        Sentence.holds(16, STALL, () -> stallEdges(DropMarket::freeMoneyOf, 10));
        Sentence.holds(16, NO_STALL, () -> noStall(DropMarket::freeMoneyOf));
        Sentence.holds(17, "Returns the free drops of a stall.", () -> {
            DropMarket market = Markets.withOne(9999, 50);
            Check.due("nothing is bound", 50, market.freeDropsOf(0));
            market.placeBuy(0, 1, 50);
            Check.due("buying binds no drops", 50, market.freeDropsOf(0));
            market.cancel(0);
            market.placeSellFor(0, 2, 50, 2);
            Check.due("all are bound", 0, market.freeDropsOf(0));
            market.takeBuy(0, 99, 49);
            Check.due("what is left is bound", 49, market.freeDropsOf(0));
            market.pass(2);
            Check.due("an expired order binds nothing", 50, market.freeDropsOf(0));
        });
        Sentence.holds(17, "Returns the number of drops.", () -> {
            DropMarket market = Markets.withOne(0, 51);
            market.placeSell(0, 9, 50);
            Check.due("one is left", 1, market.freeDropsOf(0));
        });
        Sentence.holds(17, STALL, () -> stallEdges(DropMarket::freeDropsOf, 20));
        Sentence.holds(17, NO_STALL, () -> noStall(DropMarket::freeDropsOf));
    }

    private static void totals() {
        Sentence.holds(18, "Returns the money of all stalls.", () -> {
            Check.due("of no stall", 0, new DropMarket().totalMoney());
            Check.due("of one", 9999, Markets.rich(1).totalMoney());
            Check.due("of six", 59994, Markets.rich(6).totalMoney());
            Check.due("bound money counts", 29997, Markets.full().totalMoney());
            Check.due("a trade moves it only", 14949, afterTrade().totalMoney());
        });
        Sentence.holds(18, "Returns the sum.", () -> Check.due("of two", 14, twoStalls(7, 7).totalMoney()));
        Sentence.holds(19, "Returns the drops of all stalls.", () -> {
            Check.due("of no stall", 0, new DropMarket().totalDrops());
            Check.due("of one", 999, Markets.rich(1).totalDrops());
            Check.due("of six", 5994, Markets.rich(6).totalDrops());
            Check.due("bound drops count", 2997, Markets.full().totalDrops());
            Check.due("a trade moves them only", 1049, afterTrade().totalDrops());
        });
        Sentence.holds(19, "Returns the sum.", () -> Check.due("of two", 18, twoStalls(7, 7).totalDrops()));
    }

    /** Two stalls with this money and 9 drops each. */
    private static DropMarket twoStalls(int first, int second) {
        DropMarket market = Markets.withOne(first, 9);
        market.addStall(second, 9);
        return market;
    }

    private static void ranks() {
        Sentence.holds(20, "Returns a stall in the order of money, the most first; stalls with as much money are "
                + "ordered by their numbers.", () -> {
                    ranked(new int[] {5, 5, 5, 5, 5, 5}, 0, 1, 2, 3, 4, 5);
                    ranked(new int[] {0, 1, 2, 9997, 9998, 9999}, 5, 4, 3, 2, 1, 0);
                    ranked(new int[] {5, 6, 5, 4, 6, 5}, 1, 4, 0, 2, 5, 3);
                    ranked(new int[] {0}, 0);
                    DropMarket market = twoStalls(8, 7);
                    market.placeBuy(0, 8, 1);
                    Check.due("bound money counts", 0, market.stallByMoney(0));
                    market.cancel(0);
                    Markets.traded(market, 1, 8);
                    Check.due("a trade with itself moves none", 0, market.stallByMoney(0));
                    market.placeSell(1, 2, 1);
                    market.takeBuy(0, 2, 1);
                    Check.due("a trade moves it", 1, market.stallByMoney(0));
                });
        Sentence.holds(20, "`rank`: the rank, from 0", () -> {
            Check.due("the first of one", 0, Markets.rich(1).stallByMoney(0));
            Check.due("the first of six", 0, Markets.rich(6).stallByMoney(0));
            Check.due("the last of six", 5, Markets.rich(6).stallByMoney(5));
        });
        Sentence.holds(20, "Returns the number of the stall.",
                () -> Check.due("stall", 1, twoStalls(1, 2).stallByMoney(0)));
        Sentence.holds(20, "Throws `NoSuchElementException` if there is no such rank", () -> {
            for (int stalls = 0; stalls <= 6; stalls++) {
                refusedRank(stalls, -1);
                refusedRank(stalls, stalls);
                refusedRank(stalls, 6);
            }
            for (int far : Markets.FAR_NUMBERS) {
                refusedRank(6, far);
            }
        });
    }

    private static void ranked(int[] money, int... due) {
        DropMarket market = new DropMarket();
        for (int amount : money) {
            market.addStall(amount, 0);
        }
        for (int rank = 0; rank < due.length; rank++) {
            Check.due("rank " + rank, due[rank], market.stallByMoney(rank));
        }
    }

    private static void refusedRank(int stalls, int rank) {
        Trace.refused("rank " + rank + " of " + stalls, () -> Markets.rich(stalls), NoSuchElementException.class,
                market -> market.stallByMoney(rank));
    }
}
