import java.lang.reflect.Field;
import java.lang.reflect.Method;

/**
 * Promise 48 when it does not hold. No run of calls can bring a market there, so this test reaches into the fields of
 * DropMarket; when they get other names, it is to follow.
 */
public final class ConsistencyTest {
    public static void main(String[] args) throws ReflectiveOperationException {
        Check.due("P48 as it was made", true, made().isConsistent());
        for (int stall : new int[] {0, 2}) {
            Check.due("P48 money just enough", true, with("stalls", "money", stall, 40).isConsistent());
            Check.due("P48 negative free money", false, with("stalls", "money", stall, 39).isConsistent());
            Check.due("P48 drops just enough", true, with("stalls", "drops", stall, 3).isConsistent());
            Check.due("P48 negative free drops", false, with("stalls", "drops", stall, 2).isConsistent());
        }
        Check.due("P48 spreads that do not agree", false, with("book", "quantities", 4, 0).isConsistent());
        Check.end("ConsistencyTest");
    }

    /** Stalls 0 and 2 have 40 money and 3 drops bound; order 4 is the best one of its side. */
    private static DropMarket made() {
        DropMarket market = Markets.rich(3);
        market.placeBuy(0, 20, 2);
        market.placeBuy(2, 20, 2);
        market.placeSell(0, 40, 3);
        market.placeSell(2, 40, 3);
        market.placeSell(1, 39, 3);
        return market;
    }

    private static DropMarket with(String part, String row, int index, int value) throws ReflectiveOperationException {
        DropMarket market = made();
        Object cells = fieldOf(fieldOf(fieldOf(market, "state"), part), row);
        Method set = cells.getClass().getDeclaredMethod("set", int.class, int.class);
        set.setAccessible(true);
        set.invoke(cells, index, value);
        return market;
    }

    private static Object fieldOf(Object owner, String name) throws ReflectiveOperationException {
        Field field = owner.getClass().getDeclaredField(name);
        field.setAccessible(true);
        return field.get(owner);
    }
}
