import java.util.concurrent.Callable;

/** Counts answers that are not the due ones, and ends a test by them. */
final class Check {
    private static int right = 0;
    private static int wrong = 0;
    private static String topic = "";

    private Check() {
    }

    /** What the next checks are about; it stands before what they print. */
    static void about(String newTopic) {
        topic = newTopic.isEmpty() ? "" : newTopic + ": ";
    }

    static int count() {
        return right + wrong;
    }

    static void due(String what, Object want, Object got) {
        if (want.equals(got)) {
            right++;
        } else {
            wrong++;
            System.out.println(topic + what + " answered " + got + ", due is " + want);
        }
    }

    static void refused(String what, DropMarket market, Class<? extends Exception> want, Callable<?> call) {
        unchanged(what, market, () -> throwing(what, want, call));
    }

    /** The calls must change nothing that can be asked for; many of them share the calls that two pictures take. */
    static void unchanged(String what, DropMarket market, Runnable calls) {
        String before = Picture.of(market);
        calls.run();
        due(what + " leaves the state as it was", before, Picture.of(market));
    }

    /** The call must throw just this class, no class below it. */
    static void throwing(String what, Class<? extends Exception> want, Callable<?> call) {
        due(what, "throws " + want.getSimpleName(), answer(call));
    }

    /** The answer as a text, or the simple name of the exception behind "throws". */
    static String answer(Callable<?> call) {
        try {
            return String.valueOf(call.call());
        } catch (Exception e) {
            return "throws " + e.getClass().getSimpleName();
        }
    }

    static void end(String test) {
        System.out.println(test + ": " + right + " answers as due, " + wrong + " not");
        if (wrong > 0) {
            System.exit(1);
        }
    }
}
