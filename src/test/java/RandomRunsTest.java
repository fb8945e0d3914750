import java.lang.reflect.InvocationTargetException;
import java.lang.reflect.Method;
import java.util.ArrayList;
import java.util.Arrays;
import java.util.Comparator;
import java.util.List;
import java.util.Random;

/** All promises: long runs of calls, drawn with fixed seeds, answered by DropMarket and by PlainMarket. */
public final class RandomRunsTest {
    private static final int RUNS = 800;
    private static final int CALLS = 512;
    private static final String[] MODIFYING = {"placeBuy", "placeSell", "placeBuy", "placeSell", "placeBuyFor",
        "placeSellFor", "takeBuy", "takeSell", "cancel", "pass", "openPool", "closePool", "addStall", "undo",
        "text", "text", "save", "restore"};

    private final Random random;
    private final DropMarket market = new DropMarket();
    private final PlainMarket plain = new PlainMarket();
    private final List<String> log = new ArrayList<>();
    private final int priceSpan;
    private boolean agrees = true;

    private RandomRunsTest(long seed) {
        random = new Random(seed);
        priceSpan = random.nextBoolean() ? 99 : 1 + random.nextInt(12);
    }

    public static void main(String[] args) {
        for (int seed = 0; seed < RUNS; seed++) {
            RandomRunsTest run = new RandomRunsTest(seed);
            run.go();
            Check.due("run " + seed, true, run.agrees);
        }
        Check.end("RandomRunsTest");
    }

    private static final List<Method> FACE = face();

    private static List<Method> face() {
        List<Method> methods = new ArrayList<>();
        for (Method method : DropMarket.class.getDeclaredMethods()) {
            if (java.lang.reflect.Modifier.isPublic(method.getModifiers())) {
                methods.add(method);
            }
        }
        methods.sort(Comparator.comparing(Method::getName));
        return methods;
    }

    private void go() {
        int stalls = random.nextInt(7);
        for (int i = 0; i < stalls; i++) {
            boolean rich = random.nextInt(3) > 0;
            call("addStall", rich ? 9999 - i : random.nextInt(400), rich ? 999 : random.nextInt(40));
        }
        while (agrees && log.size() < CALLS) {
            if (random.nextInt(5) < 3) {
                modify(MODIFYING[random.nextInt(MODIFYING.length)]);
            } else {
                Method method = FACE.get(random.nextInt(FACE.size()));
                call(method.getName(), arguments(method));
            }
        }
    }

    private void modify(String name) {
        if (name.equals("text")) {
            typeText();
            return;
        }
        if ((name.equals("closePool") || name.equals("restore")) && random.nextInt(3) > 0) {
            return;
        }
        for (Method method : FACE) {
            if (method.getName().equals(name)) {
                call(name, arguments(method));
            }
        }
    }

    private Object[] arguments(Method method) {
        int count = method.getParameterCount();
        Object[] arguments = new Object[count];
        for (int i = 0; i < count; i++) {
            arguments[i] = argument(method.getName(), i);
        }
        return arguments;
    }

    private Object argument(String name, int index) {
        if (name.equals("type")) {
            return random.nextInt(20) == 0 ? (char) random.nextInt(300) : "stalbuyepc 019;".charAt(random.nextInt(15));
        }
        if (random.nextInt(40) == 0) {
            int[] wrong = {-1, 0, 51, 61, 100, 10000, 1000, Integer.MIN_VALUE, Integer.MAX_VALUE};
            return wrong[random.nextInt(wrong.length)];
        }
        switch (name) {
            case "addStall":
                return random.nextInt(index == 0 ? 10000 : 1000);
            case "pass":
                return 1 + random.nextInt(random.nextInt(4) == 0 ? 60 : 5);
            case "buyingAt": case "sellingAt": case "volumeAt":
                return price();
            case "moneyOf": case "dropsOf": case "freeMoneyOf": case "freeDropsOf": case "stallByMoney":
                return random.nextInt(7);
            case "orderAt":
                return random.nextInt(21);
            case "lineAt":
                return random.nextInt(10);
            default:
                return name.startsWith("place") || name.startsWith("take") ? offer(index) : order();
        }
    }

    private int price() {
        return Math.min(99, 1 + 40 * (priceSpan < 99 ? 1 : 0) + random.nextInt(priceSpan));
    }

    private Object offer(int index) {
        int stalls = Math.max(1, plain.stallCount());
        int[] drawn = {random.nextInt(stalls), price(), 1 + random.nextInt(random.nextInt(3) == 0 ? 50 : 6),
            1 + random.nextInt(10)};
        return drawn[index];
    }

    private int order() {
        int orders = plain.orderCount();
        return orders == 0 || random.nextInt(8) == 0 ? random.nextInt(40) : plain.orderAt(random.nextInt(orders));
    }

    private void typeText() {
        StringBuilder text = new StringBuilder();
        int commands = 1 + random.nextInt(5);
        for (int i = 0; i < commands; i++) {
            text.append(i == 0 ? "" : ";").append(command());
        }
        if (random.nextInt(3) == 0) {
            int at = random.nextInt(text.length());
            text.replace(at, at + random.nextInt(2), "" + " ;019sx".charAt(random.nextInt(7)));
        }
        int executions = 2;
        if (log.size() + text.length() + executions > CALLS) {
            return;
        }
        if (random.nextInt(4) > 0) {
            call("execute");
        }
        for (char sign : text.toString().toCharArray()) {
            call("type", sign);
        }
        call("execute");
    }

    private String command() {
        String offer = " " + offer(0) + " " + price() + " " + (1 + random.nextInt(9));
        switch (random.nextInt(10)) {
            case 0:
                return "stall " + random.nextInt(1000) + " " + random.nextInt(1000);
            case 1: case 2: case 3:
                return "buy" + offer;
            case 4: case 5: case 6:
                return "sell" + offer;
            case 7:
                return "cancel " + Math.min(999, order());
            case 8:
                return "pass " + (1 + random.nextInt(9));
            default:
                return plain.isPoolOpen() == (random.nextInt(4) > 0) ? "close" : "open";
        }
    }

    private void call(String name, Object... arguments) {
        String due = answer(plain, name, arguments);
        String got = answer(market, name, arguments);
        log.add(name + Arrays.toString(arguments) + " -> " + got);
        if (agrees && !due.equals(got)) {
            agrees = false;
            System.out.println(String.join("\n", log.subList(Math.max(0, log.size() - 40), log.size())));
            System.out.println("due is " + due);
        }
    }

    private static String answer(Object object, String name, Object[] arguments) {
        Class<?>[] types = new Class<?>[arguments.length];
        for (int i = 0; i < types.length; i++) {
            types[i] = arguments[i] instanceof Character ? char.class : int.class;
        }
        try {
            return String.valueOf(object.getClass().getMethod(name, types).invoke(object, arguments));
        } catch (InvocationTargetException e) {
            return "throws " + e.getCause().getClass().getName();
        } catch (ReflectiveOperationException e) {
            return "cannot be called: " + name;
        }
    }
}
