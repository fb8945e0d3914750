import java.util.NoSuchElementException;
import java.util.function.Supplier;

/** Promises 49 to 52, sentence by sentence. */
final class TextSentences {
    private static final Class<IllegalArgumentException> MALFORMED = IllegalArgumentException.class;
    private static final Class<IllegalStateException> STATE = IllegalStateException.class;
    private static final Class<NoSuchElementException> NONE = NoSuchElementException.class;
    private static final String SIXTY = "open;close;open;close;open;close;open;close;pass 60;pass 060";
    private static final String ELEVEN = "open;close;open;close;open;close;open;close;open;close;open";
    private static final String LAST_FAILS = "open;close;open;close;open;close;open;close;open;close;close";
    private static final String ENDS_TOO_EARLY = "open;close;open;close;open;close;open;close;open;close;open;";

    private TextSentences() {
    }

    static void test() {
        typing();
        executing();
        refusedTexts();
        errorPositions();
        failedCommands();
    }

    private static void typing() {
        Sentence.holds(49, "Appends a character to the text buffer.", () -> {
            DropMarket market = Markets.typed(new DropMarket(), "pass 1");
            market.type('2');
            Check.due("execute", 1, market.execute());
            Check.due("it stands behind the others", 12, market.time());
        });
        Sentence.holds(49, "`character`: the character", () -> {
            for (char sign = 32; sign <= 126; sign++) {
                Check.due("sign " + (int) sign, 1, new DropMarket().type(sign));
            }
        });
        Sentence.holds(49, "Returns the number of characters in the buffer.", () -> {
            DropMarket market = new DropMarket();
            for (int length = 1; length <= 60; length++) {
                Check.due("length", length, market.type('~'));
            }
            Check.answer(market::execute);
            Check.due("after an execute", 1, market.type('~'));
        });
        Sentence.holds(49, "Throws `IllegalArgumentException` if the character is not from 32 to 126", () -> {
            for (int sign : new int[] {0, 31, 127, 128, 255, 256 + 'o', 65535}) {
                Trace.refused("sign " + sign, () -> Markets.typed(new DropMarket(), "ope"), MALFORMED,
                        market -> market.type((char) sign));
                Trace.refused("sign " + sign, DropMarket::new, MALFORMED, market -> market.type((char) sign));
            }
        });
        Sentence.holds(49, "Throws `IllegalStateException` if the buffer contains 60 characters", () -> {
            Check.due("with 59", 60, Markets.typed(new DropMarket(), ELEVEN).type(';'));
            Trace.refused("with 60", () -> Markets.typed(new DropMarket(), SIXTY), STATE, market -> market.type('0'));
            DropMarket market = Markets.typed(new DropMarket(), SIXTY);
            Check.throwing("with 60", STATE, () -> market.type('0'));
            Check.due("the 60 stay", 10, market.execute());
            Check.due("with none again", 1, market.type('0'));
        });
    }

    private static void executing() {
        Sentence.holds(50, "Executes the text in the buffer, which is empty afterwards.", () -> {
            DropMarket market = new DropMarket();
            Check.due("a text of 60", 10, Markets.executed(market, SIXTY));
            Check.due("time", 120, market.time());
            Check.due("empty afterwards", 1, market.type('o'));
            Check.throwing("a malformed text", MALFORMED, market::execute);
            Check.due("empty afterwards", 1, Markets.executed(market, "open"));
            Check.throwing("one that fails", STATE, () -> Markets.executed(market, "open"));
            Check.due("empty afterwards", 1, Markets.executed(market, "close"));
        });
        Sentence.holds(50, "The commands are executed in order, all of them or none: if a command fails, the effects "
                + "of the commands before it are taken back.", () -> {
                    DropMarket market = Markets.rich(2);
                    Check.due("in order", 3, Markets.executed(market, "buy 0 5 1;sell 1 4 1;buy 0 3 1"));
                    Check.due("price", 5, market.lastPrice());
                    Check.due("number", 2, market.orderAt(0));
                    takenBack("pass 60;stall 1 1;buy 2 1 1;cancel 0;pass 0");
                    takenBack("buy 0 5 1;sell 1 4 1;open;close;close");
                    takenBack("open;sell 1 4 1;buy 0 5 1;close;cancel 0");
                    takenBack("cancel 0;cancel 0");
                    takenBack(LAST_FAILS);
                });
        Sentence.holds(50, "A command fails if the method for it would throw an exception.", TextSentences::failing);
        Sentence.holds(50, "Returns the number of commands.", () -> {
            Check.due("one", 1, Markets.executed(new DropMarket(), "open"));
            Check.due("two", 2, Markets.executed(new DropMarket(), "open;close"));
            Check.due("as many as the buffer holds", 11, Markets.executed(new DropMarket(), ELEVEN));
        });
    }

    /** Two stalls and order 0, and all that can be asked of them is as if the text had not been. */
    private static void takenBack(String text) {
        DropMarket market = withOrder();
        Check.throwing(text, STATE, () -> Markets.executed(market, text));
        Check.due(text + " is taken back", Trace.ofState(withOrder()), Trace.ofState(market));
    }

    private static DropMarket withOrder() {
        DropMarket market = Markets.rich(2);
        market.placeBuyFor(0, 2, 2, 60);
        return market;
    }

    private static void failing() {
        fails("stall 1 1", () -> Markets.rich(6));
        succeeds("stall 999 999", Markets.rich(5));
        fails("buy 1 1 1", () -> Markets.rich(1));
        fails("buy 0 0 1", () -> Markets.rich(1));
        fails("buy 0 100 1", () -> Markets.rich(1));
        fails("buy 0 1 51", () -> Markets.rich(1));
        fails("buy 0 99 50", () -> Markets.withOne(4949, 0));
        fails("buy 2 25 1", Markets::full);
        succeeds("buy 0 99 50", Markets.withOne(4950, 0));
        fails("sell 1 1 1", () -> Markets.rich(1));
        fails("sell 0 000 1", () -> Markets.rich(1));
        fails("sell 0 100 1", () -> Markets.rich(1));
        fails("sell 0 1 51", () -> Markets.rich(1));
        fails("sell 0 1 0", () -> Markets.rich(1));
        fails("sell 0 1 50", () -> Markets.withOne(0, 49));
        fails("sell 2 25 1", Markets::full);
        succeeds("sell 0 1 50", Markets.withOne(0, 50));
        fails("cancel 20", Markets::full);
        succeeds("cancel 019", Markets.full());
        fails("pass 0", DropMarket::new);
        fails("pass 61", DropMarket::new);
        succeeds("pass 60", new DropMarket());
        fails("open", () -> Markets.opened(0));
        fails("close", DropMarket::new);
        succeeds("close", Markets.opened(0));
    }

    private static void fails(String text, Supplier<DropMarket> made) {
        DropMarket market = made.get();
        Check.throwing(text, STATE, () -> Markets.executed(market, text));
        Check.due(text + " fails at", 0, market.failedCommand());
    }

    private static void succeeds(String text, DropMarket market) {
        Check.due(text, 1, Markets.executed(market, text));
    }

    private static void refusedTexts() {
        Sentence.holds(50, "Throws `IllegalArgumentException` if the text is malformed; its error position is stored",
                () -> {
                    malformed("", 0);
                    malformed(" ", 0);
                    malformed("open;", 5);
                    malformed("pass 60;buy 0 1 1;close ", 23);
                    malformed("pass 60;pass 1000", 16);
                    malformed("close;opem", 9);
                    malformed(ENDS_TOO_EARLY, 60);
                });
        Sentence.holds(50, "Throws `IllegalStateException` if a command fails; its index is stored", () -> {
            DropMarket market = new DropMarket();
            Check.throwing("the first", STATE, () -> Markets.executed(market, "close;open"));
            Check.due("index", 0, market.failedCommand());
            Check.throwing("the last", STATE, () -> Markets.executed(market, LAST_FAILS));
            Check.due("index", 10, market.failedCommand());
            Check.throwing("no error position", NONE, market::errorPosition);
        });
    }

    private static void malformed(String text, int position) {
        DropMarket market = withOrder();
        Check.throwing("'" + text + "'", MALFORMED, () -> Markets.executed(market, text));
        Check.due("'" + text + "' position", position, market.errorPosition());
        Check.throwing("'" + text + "' no index", NONE, market::failedCommand);
        Check.due("'" + text + "' changes nothing", Trace.ofState(withOrder()), Trace.ofState(market));
    }

    private static void errorPositions() {
        Sentence.holds(51, "Returns the error position of the last malformed text.", () -> {
            DropMarket market = new DropMarket();
            Markets.answerOf(market, "open;x");
            Check.due("the first", 5, market.errorPosition());
            Markets.answerOf(market, "pax");
            Check.due("the last", 2, market.errorPosition());
            Markets.answerOf(market, "open;close");
            Check.due("a text that is well stores none", 2, market.errorPosition());
            Markets.answerOf(market, "open;close;close");
            Check.due("a text that fails stores none", 2, market.errorPosition());
        });
        Sentence.holds(51, "Returns the error position.", () -> {
            DropMarket market = new DropMarket();
            Markets.answerOf(market, ENDS_TOO_EARLY);
            Check.due("the greatest", 60, market.errorPosition());
            Markets.answerOf(market, "");
            Check.due("the least", 0, market.errorPosition());
        });
        Sentence.holds(51, "Throws `NoSuchElementException` if no text was malformed so far", () -> {
            Trace.refused("at first", DropMarket::new, NONE, DropMarket::errorPosition);
            Trace.refused("an unfinished text", () -> Markets.typed(new DropMarket(), "x"), NONE,
                    DropMarket::errorPosition);
            Trace.refused("a text that is well", () -> after("open"), NONE, DropMarket::errorPosition);
            Trace.refused("a text that fails", () -> after("close"), NONE, DropMarket::errorPosition);
        });
    }

    private static DropMarket after(String text) {
        DropMarket market = new DropMarket();
        Markets.answerOf(market, text);
        return market;
    }

    private static void failedCommands() {
        Sentence.holds(52, "Returns the index of the command that failed in the last text that had one.", () -> {
            DropMarket market = new DropMarket();
            Markets.answerOf(market, "open;open");
            Check.due("the first", 1, market.failedCommand());
            Markets.answerOf(market, "open;close;close");
            Check.due("the last", 2, market.failedCommand());
            Markets.answerOf(market, "open;close");
            Check.due("a text that is well has none", 2, market.failedCommand());
            Markets.answerOf(market, "close;x");
            Check.due("a malformed text has none", 2, market.failedCommand());
        });
        Sentence.holds(52, "Returns the index of the command, from 0.", () -> {
            DropMarket market = new DropMarket();
            Markets.answerOf(market, LAST_FAILS);
            Check.due("the greatest", 10, market.failedCommand());
            Markets.answerOf(market, "close");
            Check.due("the least", 0, market.failedCommand());
        });
        Sentence.holds(52, "Throws `NoSuchElementException` if no command failed so far", () -> {
            Trace.refused("at first", DropMarket::new, NONE, DropMarket::failedCommand);
            Trace.refused("a text that is well", () -> after("open"), NONE, DropMarket::failedCommand);
            Trace.refused("a malformed text", () -> after("close;x"), NONE, DropMarket::failedCommand);
            Trace.refused("a call that is refused", () -> {
                DropMarket market = new DropMarket();
                Check.answer(market::closePool);
                return market;
            }, NONE, DropMarket::failedCommand);
        });
    }
}
