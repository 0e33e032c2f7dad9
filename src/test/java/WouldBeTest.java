/** Promises 16 to 22: what would be from a cleared table. */
public final class WouldBeTest {
    public static void main(String[] args) {
        inTurn();
        begin();
        atOnce();
        atOnceEdges();
        atOnceTwentyTimes();
        minds();
        mindsEdges();
        fewerDishes();
        host();
        fewest();
        urges();
        nothingChanges();
        Checks.close("WouldBeTest");
    }

    private static void inTurn() {
        OrdersInTurn x = Checks.threeGuests();
        int[][] had = {{0, 1, 0}, {1, 0, 0}, {0, 1, 0}};
        for (int first = 0; first < 3; first++) {
            for (int guest = 0; guest < 3; guest++) {
                Checks.due("inTurn(" + first + ", " + guest + ")", x.inTurn(first, guest), had[first][guest]);
            }
        }
        x.order(1);
        x.order(2);
        Checks.due("whatever is ordered", x.inTurn(0, 1), 1);
        x.urge(1, 5);
        Checks.due("with what is urged", x.inTurn(0, 0), 1);
        Checks.due("inTurn(3, 0)", x.inTurn(3, 0), Checks.UNKNOWN);
        Checks.due("inTurn(0, 3)", x.inTurn(0, 3), Checks.UNKNOWN);
        Checks.due("inTurn(-1, 0)", x.inTurn(-1, 0), Checks.UNKNOWN);
        Checks.due("inTurn(0, -1)", x.inTurn(0, -1), Checks.UNKNOWN);
        x = Checks.withCard("11,12;0");
        Checks.sit(x, 0, 1, "11");
        Checks.sit(x, 0, 1, "11");
        Checks.due("none for the second", x.inTurn(1, 0), Checks.NONE);
    }

    private static void begin() {
        OrdersInTurn x = Checks.threeGuests();
        int[][] due = {{-1, 0, 24}, {0, 0, 9}, {1, 1, 9}, {2, 0, 8}};
        for (int[] d : due) {
            Checks.due("begin(" + d[0] + ", 0)", x.begin(d[0], 0), d[1]);
            Checks.due("begin(" + d[0] + ", 1)", x.begin(d[0], 1), d[2]);
        }
        x.want(0, 0, 6);
        // from 0: 6, 7, 8; from 1: 5, 9, 8; from 2: 5, 9, 8
        Checks.due("the best is not the first", x.begin(-1, 0), 1);
        Checks.due("its joy", x.begin(-1, 1), 22);
        Checks.due("begin(3, 2)", x.begin(3, 2), Checks.UNKNOWN);
        Checks.due("begin(-2, 0)", x.begin(-2, 0), Checks.UNKNOWN);
        Checks.due("begin(0, 2)", x.begin(0, 2), Checks.OUTSIDE);
        Checks.due("begin(-1, -1)", x.begin(-1, -1), Checks.OUTSIDE);
        x = Checks.withCard("11,12;0");
        Checks.due("no guests: begin(-1, 0)", x.begin(-1, 0), Checks.STATE);
        Checks.due("no guests: begin(-1, 2)", x.begin(-1, 2), Checks.OUTSIDE);
        Checks.due("no guests: begin(0, 0)", x.begin(0, 0), Checks.UNKNOWN);
        Checks.due("no card: begin(-1, 0)", new OrdersInTurn().begin(-1, 0), Checks.STATE);
    }

    private static void atOnce() {
        OrdersInTurn x = Checks.threeGuests();
        Checks.due("atOnce(0)", x.atOnce(0), 3);
        Checks.due("atOnce(1)", x.atOnce(1), 24);
        x.order(0);
        Checks.due("whatever is ordered", x.atOnce(0), 3);
        // with 8 more for dish 1, just those ways are good in which two have it: joy 20, 15, 17
        x.urge(1, 8);
        Checks.due("with what is urged", x.atOnce(1), 20);
        Checks.due("count(8)", x.count(8), 4);
    }

    private static void atOnceEdges() {
        OrdersInTurn x = Checks.withCard("12,91;4");
        Checks.due("nobody: one way", x.atOnce(0), 1);
        Checks.due("nobody: no joy", x.atOnce(1), 0);
        Checks.sit(x, 0, 1, "93");
        Checks.sit(x, 0, 9, "54");
        // the first one's purse has only 1; for the other one 5 is more than 4 - 4
        Checks.due("by purse: one way", x.atOnce(0), 1);
        Checks.due("by purse: its joy", x.atOnce(1), 8);
        x = Checks.withCard("19,19;4");
        Checks.sit(x, 0, 8, "99");
        Checks.due("none for his purse: no way", x.atOnce(0), 0);
        Checks.due("none for his purse: no joy", x.atOnce(1), Checks.NONE);
        x = Checks.withCard("91,91;5");
        Checks.sit(x, 0, 9, "00");
        Checks.sit(x, 3, 9, "00");
        Checks.due("one flees, one follows: no way", x.atOnce(0), 0);
        x = Checks.withCard("91,91;5");
        Checks.sit(x, 3, 9, "00");
        Checks.sit(x, 4, 9, "09");
        Checks.due("both follow: both have one", x.atOnce(0), 2);
        x = Checks.withCard("91,91;5");
        Checks.sit(x, 0, 9, "77");
        Checks.due("like value is no reason to leave", x.atOnce(0), 2);
    }

    private static void atOnceTwentyTimes() {
        OrdersInTurn x = new OrdersInTurn();
        Checks.due("no card: atOnce(0)", x.atOnce(0), Checks.STATE);
        Checks.due("no card: atOnce(2)", x.atOnce(2), Checks.OUTSIDE);
        Checks.write(x, "12,91;4");
        x.card();
        for (int i = 0; i < 20; i++) {
            Checks.due("atOnce(2)", x.atOnce(2), Checks.OUTSIDE);
            Checks.due("atOnce(-1)", x.atOnce(-1), Checks.OUTSIDE);
            Checks.due("done before", x.count(8), i);
            Checks.due("atOnce(0), time " + i, x.atOnce(0), 1);
        }
        Checks.due("once more", x.atOnce(0), Checks.STATE);
        Checks.due("once more, outside", x.atOnce(2), Checks.OUTSIDE);
        Checks.write(x, "12,91;4");
        x.card();
        Checks.due("another card, once more", x.atOnce(0), Checks.STATE);
        Checks.due("count(8)", x.count(8), 20);
    }

    private static void minds() {
        OrdersInTurn x = Checks.threeGuests();
        for (int first = 0; first < 3; first++) {
            Checks.due("minds(" + first + ")", x.minds(first), 1);
        }
        Checks.due("minds(3)", x.minds(3), Checks.UNKNOWN);
        Checks.due("minds(-1)", x.minds(-1), Checks.UNKNOWN);
        x = Checks.withCard("91,91;4");
        Checks.sit(x, 0, 9, "54");
        Checks.sit(x, 1, 9, "90");
        Checks.due("he leaves it to the one behind", x.minds(0), 2);
        Checks.due("he does not take it at all", x.minds(1), 1);
        x.order(0);
        Checks.due("whatever is ordered", x.minds(0), 2);
        x.urge(0, 9);
        Checks.due("with what is urged", x.minds(0), 1);
    }

    private static void mindsEdges() {
        OrdersInTurn x = Checks.withCard("91,91;5");
        Checks.sit(x, 0, 9, "00");
        Checks.sit(x, 3, 9, "00");
        Checks.due("one flees, one follows: never", x.minds(0), Checks.NONE);
        x = Checks.withCard("91,91;2");
        Checks.sit(x, 0, 9, "35");
        Checks.sit(x, 1, 9, "09");
        Checks.due("he keeps what is no less", x.minds(0), 1);
        x = Checks.withCard("11,19;2");
        Checks.sit(x, 0, 1, "00");
        Checks.sit(x, 0, 1, "00");
        Checks.due("nothing for one of them", x.minds(1), 1);
        // 0 has dish 0 first, 1 has none; 2 takes dish 1; 0 follows him there, and 1 has dish 0 then
        x = Checks.withCard("11,92;3");
        Checks.sit(x, 4, 9, "50");
        Checks.sit(x, 0, 1, "90");
        Checks.sit(x, 1, 9, "09");
        Checks.due("who had none takes what is given back", x.minds(0), 2);
        x = Checks.withCard("12,53,53,33,32;6");
        Checks.sit(x, 2, 3, "45840");
        Checks.sit(x, 4, 2, "48092");
        Checks.sit(x, 3, 8, "88061");
        Checks.sit(x, 0, 7, "86873");
        Checks.sit(x, 3, 3, "82383");
        x.urge(2, 3);
        Checks.due("just in 20 rounds", x.minds(0), 20);
        x = Checks.withCard("22,31,21,51,44;9");
        Checks.sit(x, 0, 3, "00919");
        Checks.sit(x, 4, 1, "40116");
        Checks.sit(x, 2, 7, "49959");
        Checks.sit(x, 3, 7, "72843");
        Checks.sit(x, 2, 7, "14832");
        Checks.due("21 rounds are too many", x.minds(0), Checks.NONE);
    }

    /** Six dishes stood on the card before: nothing of the last four may be seen behind another card. */
    private static void fewerDishes() {
        OrdersInTurn x = Checks.withCard("91,91,91,91,91,91;1");
        for (int g = 0; g < 5; g++) {
            Checks.sit(x, 0, 9, "999999");
        }
        Checks.due("five have five", x.inTurn(0, 4), 4);
        Checks.write(x, "11,11;9");
        x.card();
        for (int g = 0; g < 3; g++) {
            Checks.sit(x, 0, 9, "11");
        }
        Checks.due("the third one has none", x.inTurn(0, 2), Checks.NONE);
        Checks.due("no way for three", x.atOnce(0), 0);
        Checks.due("two of three have 1", x.host(), 2);
        Checks.due("nobody wants one by 5", x.fewest(0), Checks.NONE);
        Checks.due("no third dish", x.want(0, 2, 1), Checks.UNKNOWN);
    }

    private static void host() {
        OrdersInTurn x = new OrdersInTurn();
        Checks.due("no card: host()", x.host(), Checks.STATE);
        x = Checks.threeGuests();
        Checks.due("host()", x.host(), 24);
        x.order(2);
        x.urge(1, 20);
        Checks.due("whatever is ordered and urged", x.host(), 24);
        x = Checks.withCard("11,12;9");
        Checks.due("nobody", x.host(), 0);
        Checks.sit(x, 0, 1, "79");
        Checks.sit(x, 0, 2, "98");
        Checks.due("7 and 8, as their purses have it", x.host(), 15);
        Checks.sit(x, 0, 2, "99");
        Checks.due("one goes without: 9 and 9", x.host(), 18);
        Checks.sit(x, 0, 1, "99");
        Checks.sit(x, 0, 1, "99");
        Checks.due("no more than are left", x.host(), 18);
    }

    private static void fewest() {
        OrdersInTurn x = new OrdersInTurn();
        Checks.due("no card: fewest(0)", x.fewest(0), Checks.STATE);
        Checks.due("no card: fewest(2)", x.fewest(2), Checks.OUTSIDE);
        x = Checks.withCard("19,19,19;9");
        fewestIs(x, "nobody", 0, 0);
        Checks.sit(x, 0, 1, "050");
        fewestIs(x, "whatever its price", 1, 2);
        Checks.sit(x, 0, 1, "556");
        fewestIs(x, "whatever is left", 1, 2);
        x.want(0, 2, 9);
        fewestIs(x, "of like ones the least", 1, 2);
        Checks.sit(x, 0, 1, "505");
        fewestIs(x, "one for all three", 1, 4);
        x.want(2, 2, 4);
        fewestIs(x, "4 is not enough", 2, 3);
        Checks.sit(x, 0, 1, "005");
        fewestIs(x, "two for four", 2, 5);
        x.want(0, 2, 0);
        fewestIs(x, "three for four", 3, 7);
        x.want(3, 2, 4);
        fewestIs(x, "not by all", Checks.NONE, Checks.NONE);
        Checks.due("fewest(2)", x.fewest(2), Checks.OUTSIDE);
        Checks.due("fewest(-1)", x.fewest(-1), Checks.OUTSIDE);
    }

    private static void fewestIs(OrdersInTurn x, String what, int few, int bits) {
        Checks.due(what + ": fewest(0)", x.fewest(0), few);
        Checks.due(what + ": fewest(1)", x.fewest(1), bits);
    }

    private static void urges() {
        OrdersInTurn x = Checks.threeGuests();
        Checks.due("urges(1, 0, 1)", x.urges(1, 0, 1), 0);
        Checks.due("urges(1, 0, 2)", x.urges(1, 0, 2), 6);
        Checks.due("urges(1, 0, 3)", x.urges(1, 0, 3), Checks.NONE);
        x.urge(0, 20);
        Checks.due("whatever is urged", x.urges(1, 0, 2), 6);
        Checks.due("what is urged stays", x.dish(0, 3), 20);
        x.order(0);
        x.order(1);
        Checks.due("whatever is ordered", x.urges(1, 0, 2), 6);
        Checks.due("urges(1, 0, 0)", x.urges(1, 0, 0), Checks.OUTSIDE);
        Checks.due("urges(1, 0, 6)", x.urges(1, 0, 6), Checks.OUTSIDE);
        Checks.due("urges(1, 0, 5)", x.urges(1, 0, 5), Checks.NONE);
        Checks.due("urges(2, 0, 6)", x.urges(2, 0, 6), Checks.UNKNOWN);
        Checks.due("urges(-1, 0, 1)", x.urges(-1, 0, 1), Checks.UNKNOWN);
        Checks.due("urges(0, 3, 0)", x.urges(0, 3, 0), Checks.UNKNOWN);
        Checks.due("urges(0, -1, 1)", x.urges(0, -1, 1), Checks.UNKNOWN);
        // the one behind an OWN wants 1 by 9 more and is loath to have it by 9, a SHY by 18
        Checks.due("by 19", urgeForTwo("5", 2, "90"), 20);
        Checks.due("not by 20", urgeForTwo("6", 2, "90"), Checks.NONE);
    }

    private static int urgeForTwo(String loath, int kind, String wants) {
        OrdersInTurn x = Checks.withCard("91,91;" + loath);
        Checks.sit(x, 1, 9, "09");
        Checks.sit(x, kind, 9, wants);
        return x.urges(1, 0, 2);
    }

    private static void nothingChanges() {
        OrdersInTurn x = Checks.threeGuests();
        x.order(1);
        x.urge(0, 2);
        x.evening(0, 1, 1);
        long before = x.digest();
        x.inTurn(0, 1);
        x.begin(1, 0);
        x.begin(-1, 1);
        x.minds(1);
        x.host();
        x.fewest(0);
        x.urges(1, 0, 2);
        x.fits(1);
        x.evenings(60, 7, 0);
        x.takes(0);
        x.atOnce(9);
        Checks.due("digest() behind what would be", x.digest(), before);
    }
}
