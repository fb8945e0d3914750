/** Promises 1, 2 and 13 to 20: a new object, stalls and accounts. */
public final class StallsTest {
    private static final Class<IllegalArgumentException> RANGE = IllegalArgumentException.class;
    private static final Class<IndexOutOfBoundsException> NO_STALL = IndexOutOfBoundsException.class;

    public static void main(String[] args) {
        newObject();
        addingStalls();
        accountsOfOneStall();
        stallsThatAreNotThere();
        totals();
        ranks();
        Check.end("StallsTest");
    }

    private static void newObject() {
        DropMarket market = new DropMarket();
        Check.due("P1 stallCount", 0, market.stallCount());
        Check.due("P1 orderCount", 0, market.orderCount());
        Check.due("P1 time", 0, market.time());
        Check.due("P1 isPoolOpen", false, market.isPoolOpen());
        Check.due("P1 line", "", Picture.line(market));
        Check.due("P1 first order number", 0, withStall(market).placeBuy(0, 1, 1));
    }

    private static DropMarket withStall(DropMarket market) {
        market.addStall(100, 10);
        return market;
    }

    private static void addingStalls() {
        DropMarket market = new DropMarket();
        int[][] wrong = {{-1, 0}, {10000, 0}, {0, -1}, {0, 1000}, {Integer.MIN_VALUE, 5}, {5, Integer.MAX_VALUE}};
        Check.unchanged("P2 addStall", market, () -> {
            for (int[] pair : wrong) {
                Check.throwing("P2 addStall", RANGE, () -> market.addStall(pair[0], pair[1]));
            }
        });
        Check.due("P2 least numbers", 0, market.addStall(0, 0));
        Check.due("P2 greatest numbers", 1, market.addStall(9999, 999));
        for (int stall = 2; stall < 6; stall++) {
            Check.due("P2 addStall", stall, market.addStall(stall, stall));
            Check.due("P13 stallCount", stall + 1, market.stallCount());
        }
        Check.refused("P2 a seventh", market, IllegalStateException.class, () -> market.addStall(0, 0));
        Check.refused("P2 a seventh out of range", market, RANGE, () -> market.addStall(-1, 0));
        Check.due("P13 stallCount", 6, market.stallCount());
    }

    private static void accountsOfOneStall() {
        DropMarket market = new DropMarket();
        market.addStall(1000, 100);
        market.addStall(500, 50);
        market.placeBuy(0, 10, 3);
        market.placeBuy(0, 7, 5);
        market.placeBuy(1, 9, 2);
        market.placeSell(0, 20, 8);
        market.placeSell(0, 90, 4);
        market.placeSell(1, 30, 1);
        Check.due("P14 moneyOf", 1000, market.moneyOf(0));
        Check.due("P15 dropsOf", 100, market.dropsOf(0));
        Check.due("P16 freeMoneyOf", 1000 - 30 - 35, market.freeMoneyOf(0));
        Check.due("P17 freeDropsOf", 100 - 8 - 4, market.freeDropsOf(0));
        Check.due("P16 freeMoneyOf another", 500 - 18, market.freeMoneyOf(1));
        Check.due("P17 freeDropsOf another", 50 - 1, market.freeDropsOf(1));
        market.takeSell(1, 10, 2);
        Check.due("P14 moneyOf after a trade", 980, market.moneyOf(0));
        Check.due("P15 dropsOf after a trade", 102, market.dropsOf(0));
        Check.due("P16 freeMoneyOf after a trade", 980 - 10 - 35, market.freeMoneyOf(0));
        Check.due("P14 moneyOf the seller", 520, market.moneyOf(1));
        Check.due("P15 dropsOf the seller", 48, market.dropsOf(1));
        Check.due("P17 freeDropsOf the seller", 47, market.freeDropsOf(1));
    }

    private static void stallsThatAreNotThere() {
        DropMarket market = new DropMarket();
        market.addStall(5, 5);
        market.addStall(6, 6);
        Check.unchanged("P14 to P17", market, () -> {
            for (int stall : new int[] {-1, 2, 5, 6, Integer.MIN_VALUE, Integer.MAX_VALUE}) {
                Check.throwing("P14 moneyOf " + stall, NO_STALL, () -> market.moneyOf(stall));
                Check.throwing("P15 dropsOf " + stall, NO_STALL, () -> market.dropsOf(stall));
                Check.throwing("P16 freeMoneyOf " + stall, NO_STALL, () -> market.freeMoneyOf(stall));
                Check.throwing("P17 freeDropsOf " + stall, NO_STALL, () -> market.freeDropsOf(stall));
            }
        });
        Check.due("P14 the last stall", 6, market.moneyOf(1));
    }

    private static void totals() {
        DropMarket market = new DropMarket();
        Check.due("P18 without stalls", 0, market.totalMoney());
        Check.due("P19 without stalls", 0, market.totalDrops());
        for (int stall = 0; stall < 6; stall++) {
            market.addStall(9999, 999);
        }
        market.placeBuy(0, 50, 20);
        market.placeSell(3, 40, 30);
        Check.due("P18 totalMoney", 6 * 9999, market.totalMoney());
        Check.due("P19 totalDrops", 6 * 999, market.totalDrops());
        Check.due("P14 more than a new stall's money", 9999 + 1000, market.moneyOf(3));
        Check.due("P15 more than a new stall's drops", 999 + 20, market.dropsOf(0));
    }

    private static void ranks() {
        DropMarket market = new DropMarket();
        Class<? extends Exception> noRank = java.util.NoSuchElementException.class;
        Check.refused("P20 without stalls", market, noRank, () -> market.stallByMoney(0));
        int[] money = {300, 301, 300, 900, 300};
        for (int amount : money) {
            market.addStall(amount, 10);
        }
        int[] order = {3, 1, 0, 2, 4};
        for (int rank = 0; rank < order.length; rank++) {
            Check.due("P20 stallByMoney " + rank, order[rank], market.stallByMoney(rank));
        }
        Check.unchanged("P20 stallByMoney", market, () -> {
            for (int rank : new int[] {-1, 5, 6, Integer.MIN_VALUE, Integer.MAX_VALUE}) {
                Check.throwing("P20 stallByMoney " + rank, noRank, () -> market.stallByMoney(rank));
            }
        });
        market.placeSell(4, 50, 5);
        market.takeBuy(3, 50, 5);
        Check.due("P20 after a trade", 3, market.stallByMoney(0));
        Check.due("P20 after a trade", 4, market.stallByMoney(1));
        market.placeBuy(3, 99, 6);
        Check.due("P20 goes by money, not by free money", 3, market.stallByMoney(0));
    }
}
