/** What the tests share: answers compared and counted, and tables laid in one line. */
final class Checks {
    static final int NONE = -1, UNKNOWN = -101, OUTSIDE = -102, STATE = -103, FULL = -104;

    private static int passed = 0;
    private static int failed = 0;
    private static String sentence = "";
    private static int passedBefore = 0;

    private Checks() {
    }

    /** The sentence of the document that the answers from here on belong to, with its promise's number. */
    static void says(String promise, String words) {
        endSentence();
        sentence = promise + ", \"" + words + "\": ";
        passedBefore = passed;
    }

    /** A sentence behind which nothing was compared would pass unseen. */
    private static void endSentence() {
        if (!sentence.isEmpty() && passed == passedBefore) {
            failed++;
            System.out.println(sentence + "no answer was as due");
        }
    }

    static void due(String call, long got, long want) {
        if (got == want) {
            passed++;
        } else {
            failed++;
            System.out.println(sentence + call + " answered " + got + ", due is " + want);
        }
    }

    static void isTrue(String what, boolean holds) {
        due(what, holds ? 1 : 0, 1);
    }

    /** Prints the counts and ends the program, with exit code 1 if an answer was wrong. */
    static void close(String test) {
        endSentence();
        System.out.println(test + ": " + passed + " answers as due, " + failed + " not");
        System.exit(failed == 0 && passed > 0 ? 0 : 1);
    }

    static void write(OrdersInTurn x, String text) {
        for (int i = 0; i < text.length(); i++) {
            x.letter(text.charAt(i));
        }
    }

    static OrdersInTurn withCard(String text) {
        OrdersInTurn x = new OrdersInTurn();
        write(x, text);
        x.card();
        return x;
    }

    /** A guest of a kind with a purse, and what he wants the dishes, a digit for each. */
    static int sit(OrdersInTurn x, int kind, int purse, String wants) {
        int guest = x.guest(kind, purse);
        for (int d = 0; d < wants.length(); d++) {
            x.want(guest, d, wants.charAt(d) - '0');
        }
        return guest;
    }

    /**
     * Three plain guests, LOATH 3, two of each dish. From 0 they have 0, 1, 0 (joy 24); from 1 on
     * 1, 0, 0 (joy 22); from 2 on 0, 1, 0 (joy 24).
     */
    static OrdersInTurn threeGuests() {
        OrdersInTurn x = withCard("21,21;3");
        sit(x, 0, 9, "95");
        sit(x, 0, 9, "97");
        sit(x, 0, 9, "81");
        return x;
    }
}
