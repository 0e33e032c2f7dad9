/** Promises 7 to 15: the guests, what they want and what they order. */
public final class GuestsTest {
    public static void main(String[] args) {
        guests();
        about();
        kinds();
        wants();
        purses();
        urge();
        takes();
        sways();
        orders();
        clears();
        Checks.close("GuestsTest");
    }

    private static void guests() {
        OrdersInTurn x = new OrdersInTurn();
        Checks.due("no card: guest(0, 1)", x.guest(0, 1), Checks.STATE);
        Checks.due("no card: guest(5, 1)", x.guest(5, 1), Checks.OUTSIDE);
        x = Checks.withCard("21,21;3");
        Checks.due("guest(-1, 1)", x.guest(-1, 1), Checks.OUTSIDE);
        Checks.due("guest(5, 1)", x.guest(5, 1), Checks.OUTSIDE);
        Checks.due("guest(0, 0)", x.guest(0, 0), Checks.OUTSIDE);
        Checks.due("guest(0, 10)", x.guest(0, 10), Checks.OUTSIDE);
        Checks.due("none came", x.count(2), 0);
        for (int i = 0; i < 5; i++) {
            Checks.due("guest " + i, x.guest(i, i == 0 ? 1 : 9), i);
        }
        Checks.due("a sixth one", x.guest(0, 1), Checks.FULL);
        Checks.due("a sixth one outside", x.guest(0, 0), Checks.OUTSIDE);
        Checks.due("five", x.count(2), 5);
    }

    private static void about() {
        OrdersInTurn x = Checks.withCard("21,21;3");
        int[] sways = {-3, 0, -6, 3, 6};
        for (int kind = 0; kind < 5; kind++) {
            x.guest(kind, kind + 2);
            Checks.due("kind of " + kind, x.about(kind, 0), kind);
            Checks.due("purse of " + kind, x.about(kind, 1), kind + 2);
            Checks.due("dish of " + kind, x.about(kind, 2), Checks.NONE);
            Checks.due("ordered of " + kind, x.about(kind, 3), 0);
            Checks.due("sway of " + kind, x.about(kind, 4), sways[kind]);
            Checks.due("joy of " + kind, x.about(kind, 5), 0);
        }
        x.want(1, 1, 8);
        x.order(1);
        Checks.due("dish had", x.about(1, 2), 1);
        Checks.due("has ordered", x.about(1, 3), 1);
        Checks.due("joy had", x.about(1, 5), 8);
        x.want(1, 1, 2);
        Checks.due("joy by what he wants now", x.about(1, 5), 2);
        Checks.due("about(0, 6)", x.about(0, 6), Checks.OUTSIDE);
        Checks.due("about(0, -1)", x.about(0, -1), Checks.OUTSIDE);
        Checks.due("about(5, 0)", x.about(5, 0), Checks.UNKNOWN);
        Checks.due("about(-1, 6)", x.about(-1, 6), Checks.UNKNOWN);
    }

    private static void kinds() {
        OrdersInTurn x = Checks.withCard("21,21;3");
        for (int kind = 0; kind < 5; kind++) {
            x.guest(kind, 1);
        }
        for (int guest = 0; guest < 5; guest++) {
            for (int kind = 0; kind < 5; kind++) {
                boolean such = kind == 0 || kind == guest || (guest == 4 && kind == 3);
                Checks.due("as(" + guest + ", " + kind + ")", x.as(guest, kind), such ? guest : Checks.NONE);
            }
        }
        Checks.due("as(0, 5)", x.as(0, 5), Checks.OUTSIDE);
        Checks.due("as(0, -1)", x.as(0, -1), Checks.OUTSIDE);
        Checks.due("as(5, 5)", x.as(5, 5), Checks.UNKNOWN);
        Checks.due("as(-1, 0)", x.as(-1, 0), Checks.UNKNOWN);
    }

    private static void wants() {
        OrdersInTurn x = Checks.withCard("21,21;3");
        x.guest(0, 1);
        Checks.due("want at first", x.want(0, 1, 9), 0);
        Checks.due("want then", x.want(0, 1, 0), 9);
        Checks.due("want of another dish", x.want(0, 0, 4), 0);
        Checks.due("want(0, 0, 10)", x.want(0, 0, 10), Checks.OUTSIDE);
        Checks.due("want(0, 0, -1)", x.want(0, 0, -1), Checks.OUTSIDE);
        Checks.due("want(1, 0, 10)", x.want(1, 0, 10), Checks.UNKNOWN);
        Checks.due("want(0, 2, 10)", x.want(0, 2, 10), Checks.UNKNOWN);
        Checks.due("want(-1, 0, 1)", x.want(-1, 0, 1), Checks.UNKNOWN);
        Checks.due("want(0, -1, 1)", x.want(0, -1, 1), Checks.UNKNOWN);
        Checks.due("want as it was", x.want(0, 0, 4), 4);
    }

    private static void purses() {
        OrdersInTurn x = Checks.withCard("21,25;3");
        Checks.sit(x, 0, 4, "19");
        Checks.due("too dear", x.takes(0), 0);
        Checks.due("purse(0, 5)", x.purse(0, 5), 4);
        Checks.due("just not too dear", x.takes(0), 1);
        Checks.due("purse(0, 0)", x.purse(0, 0), Checks.OUTSIDE);
        Checks.due("purse(0, 10)", x.purse(0, 10), Checks.OUTSIDE);
        Checks.due("purse(1, 0)", x.purse(1, 0), Checks.UNKNOWN);
        Checks.due("purse(-1, 1)", x.purse(-1, 1), Checks.UNKNOWN);
        Checks.due("purse(0, 9)", x.purse(0, 9), 5);
        Checks.due("purse(0, 1)", x.purse(0, 1), 9);
    }

    private static void urge() {
        OrdersInTurn x = Checks.withCard("21,21;3");
        Checks.sit(x, 0, 9, "95");
        Checks.due("urge(1, 4)", x.urge(1, 4), Checks.NONE);
        Checks.due("of like ones the least", x.takes(0), 0);
        Checks.due("urge(1, 5)", x.urge(1, 5), 1);
        Checks.due("urged enough", x.takes(0), 1);
        Checks.due("from 0 on too", x.inTurn(0, 0), 1);
        Checks.due("urge(0, 1)", x.urge(0, 1), 1);
        Checks.due("1 is not urged any more", x.dish(1, 3), 0);
        Checks.due("0 is", x.dish(0, 3), 1);
        Checks.due("urge(1, 0)", x.urge(1, 0), 0);
        Checks.due("nothing is", x.dish(0, 3), 0);
        Checks.due("urge(1, 20)", x.urge(1, 20), Checks.NONE);
        Checks.due("urge(1, 21)", x.urge(1, 21), Checks.OUTSIDE);
        Checks.due("urge(1, -1)", x.urge(1, -1), Checks.OUTSIDE);
        Checks.due("urge(2, 21)", x.urge(2, 21), Checks.UNKNOWN);
        Checks.due("urge(-1, 0)", x.urge(-1, 0), Checks.UNKNOWN);
        Checks.due("urged as before", x.dish(1, 3), 20);
        x.order(0);
        x.clear();
        Checks.due("urged when cleared, too", x.dish(1, 3), 20);
    }

    private static void takes() {
        OrdersInTurn x = Checks.withCard("11,12,23;0");
        Checks.sit(x, 0, 2, "789");
        Checks.sit(x, 0, 2, "789");
        Checks.sit(x, 0, 2, "789");
        Checks.sit(x, 1, 3, "000");
        Checks.due("most within the purse", x.takes(0), 1);
        Checks.due("takes changes nothing", x.dish(1, 0), 1);
        x.order(0);
        Checks.due("who ordered", x.takes(0), Checks.STATE);
        Checks.due("none is left of it", x.takes(1), 0);
        x.order(1);
        Checks.due("nothing within the purse", x.takes(2), Checks.NONE);
        Checks.due("another purse", x.takes(3), 2);
        Checks.due("takes(4)", x.takes(4), Checks.UNKNOWN);
        Checks.due("takes(-1)", x.takes(-1), Checks.UNKNOWN);
    }

    /** Two have dish 0 ahead of one; 0 is worth more to a kind by twice its sway. */
    private static void sways() {
        // a GUEST: 9 - 4 against 5; an OWN: 9 against 9; a SHY: 9 - 8 against 1; and one more each
        int[][] tried = {{0, 95, 0}, {0, 96, 1}, {1, 99, 0}, {2, 91, 0}, {2, 92, 1}};
        for (int[] t : tried) {
            Checks.due("sway of kind " + t[0] + ", wants " + t[1], takenBehindTwo("2", t[0], t[1]), t[2]);
        }
        // a SHEEP: 0 + 4 against 4, 5; a LAMB: 0 + 8 against 8, 9
        int[][] more = {{3, 4, 0}, {3, 5, 1}, {4, 8, 0}, {4, 9, 1}};
        for (int[] t : more) {
            Checks.due("sway of kind " + t[0] + ", wants " + t[1], takenBehindTwo("2", t[0], t[1]), t[2]);
        }
        Checks.due("a value below 0 is taken", takenBehindTwo("9", 2, 90), 1);
    }

    private static int takenBehindTwo(String loath, int kind, int wants) {
        OrdersInTurn x = Checks.withCard("91,91;" + loath);
        Checks.sit(x, 1, 9, "90");
        Checks.sit(x, 1, 9, "90");
        Checks.sit(x, kind, 9, (wants < 10 ? "0" : "") + wants);
        x.order(0);
        x.order(1);
        return x.takes(2);
    }

    private static void orders() {
        OrdersInTurn x = Checks.withCard("11,12;0");
        Checks.sit(x, 0, 1, "12");
        Checks.sit(x, 0, 1, "12");
        Checks.due("order(0)", x.order(0), 0);
        Checks.due("order(0) again", x.order(0), Checks.STATE);
        Checks.due("left", x.dish(0, 0), 0);
        Checks.due("order(1): none", x.order(1), Checks.NONE);
        Checks.due("he ordered all the same", x.about(1, 3), 1);
        Checks.due("he has none", x.about(1, 2), Checks.NONE);
        Checks.due("he has no joy", x.about(1, 5), 0);
        Checks.due("order(1) again", x.order(1), Checks.STATE);
        Checks.due("two ordered", x.count(3), 2);
        Checks.due("joy of all", x.count(4), 1);
        Checks.due("order(2)", x.order(2), Checks.UNKNOWN);
        Checks.due("order(-1)", x.order(-1), Checks.UNKNOWN);
        x.purse(0, 9);
        x.want(0, 0, 0);
        Checks.due("what he has stays", x.about(0, 2), 0);
    }

    private static void clears() {
        OrdersInTurn x = Checks.withCard("11,12;0");
        Checks.sit(x, 0, 1, "12");
        Checks.sit(x, 0, 1, "12");
        x.order(0);
        x.order(1);
        Checks.due("clear()", x.clear(), 2);
        Checks.due("clear() again", x.clear(), 0);
        Checks.due("all is left", x.dish(0, 0), 1);
        Checks.due("nobody has it", x.dish(0, 2), 0);
        Checks.due("nobody ordered", x.about(1, 3), 0);
        Checks.due("he has nothing", x.about(0, 2), Checks.NONE);
        Checks.due("wants stay", x.want(0, 1, 2), 2);
        Checks.due("he orders again", x.order(1), 0);
    }
}
