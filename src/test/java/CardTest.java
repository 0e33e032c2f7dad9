/** Promises 1 to 6: a new object, the page and the card. */
public final class CardTest {
    public static void main(String[] args) {
        newObject();
        letters();
        blanks();
        faults();
        cards();
        cardReplaced();
        dishes();
        Checks.close("CardTest");
    }

    private static void newObject() {
        OrdersInTurn x = new OrdersInTurn();
        for (int what = 0; what < 9; what++) {
            Checks.due("new: count(" + what + ")", x.count(what), 0);
        }
        Checks.due("new: digest()", x.digest(), 20014793975627947L);
        Checks.due("new: dish(0, 0)", x.dish(0, 0), Checks.UNKNOWN);
        Checks.due("new: about(0, 0)", x.about(0, 0), Checks.UNKNOWN);
        Checks.due("new: guest(0, 5)", x.guest(0, 5), Checks.STATE);
        Checks.due("new: card()", x.card(), Checks.STATE);
        Checks.due("new: fault()", x.fault(), 0);
        Checks.due("new: blank()", x.blank(), 0);
        Checks.due("new: clear()", x.clear(), 0);
        Checks.due("new: forget()", x.forget(), 0);
        Checks.due("new: restore()", x.restore(), Checks.STATE);
    }

    private static void letters() {
        OrdersInTurn x = new OrdersInTurn();
        Checks.due("letter(0)", x.letter(0), Checks.OUTSIDE);
        Checks.due("letter(127)", x.letter(127), Checks.OUTSIDE);
        Checks.due("letter(min)", x.letter(Integer.MIN_VALUE), Checks.OUTSIDE);
        Checks.due("letter(max)", x.letter(Integer.MAX_VALUE), Checks.OUTSIDE);
        Checks.due("letter(1)", x.letter(1), 1);
        Checks.due("letter(126)", x.letter(126), 2);
        for (int i = 3; i <= 22; i++) {
            Checks.due("letter " + i, x.letter('1'), i);
        }
        Checks.due("letter above 22", x.letter('1'), Checks.FULL);
        Checks.due("letter outside above 22", x.letter(0), Checks.OUTSIDE);
        Checks.due("count(6) when full", x.count(6), 22);
    }

    private static void blanks() {
        OrdersInTurn x = new OrdersInTurn();
        Checks.write(x, "21,");
        Checks.due("blank()", x.blank(), 3);
        Checks.due("blank() again", x.blank(), 0);
        Checks.due("count(6) behind blank", x.count(6), 0);
        Checks.write(x, "11,11;0");
        Checks.due("card() behind blank", x.card(), 2);
    }

    private static void faultOf(String text, int place) {
        OrdersInTurn x = new OrdersInTurn();
        Checks.write(x, text);
        Checks.due("fault() of " + text, x.fault(), place);
        Checks.due("letters behind fault() of " + text, x.count(6), text.length());
    }

    private static void faults() {
        faultOf("", 0);
        faultOf("2", 1);
        faultOf("0", 0);
        faultOf("20", 1);
        faultOf("2:", 1);
        faultOf("2,", 1);
        faultOf("21", 2);
        faultOf("21;", 2);
        faultOf("211", 2);
        faultOf("21,,", 3);
        faultOf("21,1", 4);
        faultOf("21,11;", 6);
        faultOf("21,11;0", 7);
        faultOf("21,11;9", 7);
        faultOf("21,11;:", 6);
        faultOf("21,11;/", 6);
        faultOf("21,11;;", 6);
        faultOf("21,11;34", 7);
        faultOf("21,11;3;", 7);
        faultOf("21,11:3", 5);
        faultOf("99,99,99,99,99,99;0", 19);
        faultOf("99,99,99,99,99,99;01", 19);
        faultOf("99,99,99,99,99,99,", 17);
        faultOf("99,99,99,99,99,99,99;0", 17);
        faultOf(" 21,11;3", 0);
    }

    private static void cardOf(String text, int want) {
        OrdersInTurn x = new OrdersInTurn();
        Checks.write(x, text);
        Checks.due("card() of " + text, x.card(), want);
        boolean read = want > 0;
        Checks.due("letters behind card() of " + text, x.count(6), read ? 0 : text.length());
        Checks.due("dishes of " + text, x.count(0), read ? want : 0);
        Checks.due("cards read of " + text, x.count(7), read ? 1 : 0);
    }

    private static void cards() {
        cardOf("21,11;3", 2);
        cardOf("21,11,99;0", 3);
        cardOf("99,99,99,99,99,99;9", 6);
        cardOf("", Checks.STATE);
        cardOf("21", Checks.STATE);
        cardOf("21,11", Checks.STATE);
        cardOf("21,11;", Checks.STATE);
        cardOf("21;3", Checks.STATE);
        cardOf(";3", Checks.STATE);
        cardOf("21,11;33", Checks.STATE);
        cardOf("99,99,99,99,99,99,99;0", Checks.STATE);
    }

    private static void cardReplaced() {
        OrdersInTurn x = Checks.threeGuests();
        x.order(0);
        x.urge(1, 7);
        x.evening(0, 1, 1);
        x.image();
        x.atOnce(0);
        Checks.write(x, "31,42,19;8");
        Checks.due("card() anew", x.card(), 3);
        int[] counts = {3, 8, 0, 0, 0, 0, 0, 2, 1};
        for (int what = 0; what < counts.length; what++) {
            Checks.due("new card: count(" + what + ")", x.count(what), counts[what]);
        }
        Checks.due("new card: guests are gone", x.about(0, 0), Checks.UNKNOWN);
        Checks.due("new card: all is left", x.dish(0, 0), 3);
        Checks.due("new card: nobody has it", x.dish(0, 2), 0);
        Checks.due("new card: nothing is urged", x.dish(1, 3), 0);
        Checks.due("new card: no urged dish", x.urge(0, 0), Checks.NONE);
        Checks.due("new card: image is of another", x.restore(), Checks.STATE);
        Checks.due("new card: first guest", x.guest(0, 1), 0);
        Checks.due("new card: he wants nothing", x.want(0, 0, 1), 0);
        Checks.due("new card: he has nothing", x.about(0, 2), Checks.NONE);
        Checks.due("new card: he has not ordered", x.about(0, 3), 0);
        Checks.write(x, "31,42;");
        Checks.due("half a card", x.card(), Checks.STATE);
        Checks.due("half a card: the old one stays", x.count(0), 3);
        Checks.due("half a card: the guest stays", x.count(2), 1);
        Checks.due("half a card: the page stays", x.count(6), 6);
    }

    private static void dishes() {
        OrdersInTurn x = Checks.withCard("31,42,19;8");
        int[] left = {3, 4, 1};
        int[] price = {1, 2, 9};
        for (int d = 0; d < 3; d++) {
            Checks.due("left of " + d, x.dish(d, 0), left[d]);
            Checks.due("price of " + d, x.dish(d, 1), price[d]);
            Checks.due("who has " + d, x.dish(d, 2), 0);
            Checks.due("urge of " + d, x.dish(d, 3), 0);
        }
        Checks.due("dish(3, 0)", x.dish(3, 0), Checks.UNKNOWN);
        Checks.due("dish(-1, 0)", x.dish(-1, 0), Checks.UNKNOWN);
        Checks.due("dish(-1, 9)", x.dish(-1, 9), Checks.UNKNOWN);
        Checks.due("dish(max, 0)", x.dish(Integer.MAX_VALUE, 0), Checks.UNKNOWN);
        Checks.due("dish(0, 4)", x.dish(0, 4), Checks.OUTSIDE);
        Checks.due("dish(0, -1)", x.dish(0, -1), Checks.OUTSIDE);
        Checks.sit(x, 0, 9, "009");
        x.order(0);
        x.urge(1, 20);
        Checks.due("left of the dish taken", x.dish(2, 0), 0);
        Checks.due("who has the dish taken", x.dish(2, 2), 1);
        Checks.due("urge of the dish urged", x.dish(1, 3), 20);
        Checks.due("urge of another", x.dish(2, 3), 0);
    }
}
