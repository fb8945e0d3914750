/** What "Terms" says on texts, sentence by sentence. */
final class GrammarSentences {
    private static final String MALFORMED = "throws IllegalArgumentException";

    private GrammarSentences() {
    }

    static void test() {
        buffer();
        grammar();
        commands();
        errorPositions();
    }

    private static void term(String sentence, Runnable test) {
        Sentence.holds(Document.TERMS, sentence, test);
    }

    private static void buffer() {
        term("Characters are collected in a buffer of at most 60 characters.", () -> {
            DropMarket market = Markets.typed(new DropMarket(), "x".repeat(59));
            Check.due("the last one", 60, market.type(' '));
            Check.throwing("one more", IllegalStateException.class, () -> market.type(' '));
            Check.throwing("and one more", IllegalStateException.class, () -> market.type('x'));
        });
    }

    private static void grammar() {
        term("A command text has the following grammar, with terminals in quotes: text = command { \";\" command }; "
                + "command = \"stall\" n n | \"buy\" d n n | \"sell\" d n n | \"cancel\" n | \"pass\" n | \"open\" | "
                + "\"close\"; d is a blank and a decimal digit, and n is a blank and one to three decimal digits.",
                () -> {
                    wellFormed();
                    malformed("", " ", ";", "open;", ";open", "open;;open", "open; open", "open ;open", "open,open");
                    malformed("stall", "stall 1", "stall 1 2 3", "stall 1234 1", "stall 1 1234", "stall  1 1");
                    malformed("buy", "buy 1", "buy 1 2", "buy 1 2 3 4", "buy 01 2 3", "buy 1 1234 3", "buy 1 2 1234");
                    malformed("sell", "sell 1", "sell 1 2", "sell 1 2 3 4", "sell 10 2 3", "sell 1 1234 3",
                            "sell 1 2 1234");
                    malformed("cancel", "cancel ", "cancel 1 2", "cancel 1234", "cancel  1", "cancel1", "cancel 1 ");
                    malformed("pass", "pass ", "pass 1 2", "pass 1234", "pass  1", "pass1", "pass 1 ", "pass -1");
                    malformed("open 1", "open ", " open", "opens", "ope", "Open", "OPEN", "close 1", "close ", "clos");
                    malformed("pass /", "pass :", "buy / 1 1", "buy : 1 1", "pass 1/", "pass 1:", "pass a", "1");
                });
    }

    /** With a digit fewer and a digit more than allowed, each of these stands among the malformed ones. */
    private static void wellFormed() {
        DropMarket market = new DropMarket();
        Check.due("open", "1", Markets.answerOf(market, "open"));
        Check.due("close", "1", Markets.answerOf(market, "close"));
        String[] numbers = {"1", "01", "001", "10", "010"};
        for (String number : numbers) {
            Check.due("pass " + number, "1", Markets.answerOf(new DropMarket(), "pass " + number));
            Check.due("cancel " + number, "1", Markets.answerOf(Markets.full(), "cancel " + number));
            Check.due("stall " + number, "1", Markets.answerOf(market, "stall " + number + " " + number));
            Check.due("buy " + number, "1", Markets.answerOf(Markets.rich(1), "buy 0 " + number + " " + number));
            Check.due("sell " + number, "1", Markets.answerOf(Markets.rich(1), "sell 0 " + number + " " + number));
        }
        Check.due("two commands", "2", Markets.answerOf(new DropMarket(), "stall 999 000;buy 0 99 10"));
        for (char digit = '0'; digit <= '9'; digit++) {
            String due = digit < '6' ? "1" : "throws IllegalStateException";
            Check.due("d " + digit, due, Markets.answerOf(Markets.rich(6), "buy " + digit + " 9 9"));
            Check.due("n " + digit, "1", Markets.answerOf(new DropMarket(), "pass 1" + digit));
        }
    }

    private static void malformed(String... texts) {
        for (String text : texts) {
            Check.due("'" + text + "'", MALFORMED, Markets.answerOf(Markets.rich(2), text));
            Check.due("'open;" + text + "'", MALFORMED, Markets.answerOf(Markets.rich(2), "open;" + text));
        }
    }

    private static void commands() {
        term("The commands stand for addStall, placeBuy, placeSell, cancel, pass, openPool and closePool, with their "
                + "parameters in order.", () -> {
                    DropMarket market = new DropMarket();
                    Markets.executed(market, "stall 123 45;stall 6 78");
                    Check.due("money", 123, market.moneyOf(0));
                    Check.due("drops", 78, market.dropsOf(1));
                    Markets.executed(market, "buy 0 7 8;sell 1 90 12");
                    Check.due("buy", "0b8x7", Markets.writtenOrder(market, 0));
                    Check.due("sell", "1s12x90", Markets.writtenOrder(market, 1));
                    Check.due("stalls", 1, market.stallOf(1) - market.stallOf(0));
                    Check.throwing("they last", IllegalStateException.class, () -> market.minutesLeft(0));
                    Markets.executed(market, "cancel 1;pass 34");
                    Check.due("cancelled", 1, market.orderCount());
                    Check.due("passed", 34, market.time());
                    Markets.executed(market, "open");
                    Check.due("opened", true, market.isPoolOpen());
                    Markets.executed(market, "close");
                    Check.due("closed", false, market.isPoolOpen());
                });
    }

    private static void errorPositions() {
        term("The error position of a malformed text is the index of its first character that cannot continue any "
                + "valid text, or its length if it ends too early.", () -> {
                    String[] texts = {"stall 12 345;open", "buy 1 23 4;close", "sell 9 999 1;pass 5", "cancel 77;buy 2",
                        "close;stall 1 1", "pass 123;cancel 1", "open;sell 1 1 11"};
                    for (String text : texts) {
                        eachBeginning(text);
                    }
                });
    }

    /** Each beginning of the text, alone and with each character behind it, answered as the document's grammar asks. */
    private static void eachBeginning(String text) {
        for (int length = 0; length <= text.length(); length++) {
            String beginning = text.substring(0, length);
            asThePlainMarket(beginning);
            for (char sign = 32; sign <= 126; sign++) {
                asThePlainMarket(beginning + sign);
            }
        }
    }

    private static void asThePlainMarket(String text) {
        DropMarket market = new DropMarket();
        PlainMarket plain = new PlainMarket();
        for (char sign : text.toCharArray()) {
            plain.type(sign);
        }
        Check.due("'" + text + "'", Check.answer(plain::execute), Markets.answerOf(market, text));
        Check.due("position in '" + text + "'", Check.answer(plain::errorPosition),
                Check.answer(market::errorPosition));
    }
}
