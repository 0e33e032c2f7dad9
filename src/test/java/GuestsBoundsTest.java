/** Promises 7 to 15, sentence by sentence: just inside and just outside of each bound. */
public final class GuestsBoundsTest {
    private static final int MIN = Integer.MIN_VALUE;
    private static final int MAX = Integer.MAX_VALUE;
    /** No guests of three: beside the first and the last one, and far off. */
    private static final int[] NOT_OF_THREE = {-1, 3, -2, 5, MIN, MAX};

    public static void main(String[] args) {
        promise7Kind();
        promise7Purse();
        promise7NoCard();
        promise7Full();
        promise7OutsideAheadOfStateAndFull();
        promise7AtFirst();
        promise8();
        promise8SwayAtTheEndsOfLoath();
        promise8HasNothing();
        promise9();
        promise9TheCastFails();
        promise10();
        promise10UnknownAheadOfOutside();
        promise11();
        promise12();
        promise12NothingIs();
        promise13Purse();
        promise13Left();
        promise13LikeOnes();
        promise13Sway();
        promise13None();
        promise13HeOrdered();
        promise14();
        promise14None();
        promise15();
        Checks.close("GuestsBoundsTest");
    }

    private static void promise7Kind() {
        Checks.says("Promise 7", "OUTSIDE: kind");
        int[] outside = {-1, 5, MIN, MAX};
        for (int kind : outside) {
            Twins.refused("guest(" + kind + ", 5)", Scenes::busy, x -> x.guest(kind, 5), Checks.OUTSIDE);
        }
        for (int kind = 0; kind <= 4; kind++) {
            OrdersInTurn x = Scenes.busy();
            Checks.due("guest(" + kind + ", 5)", x.guest(kind, 5), 3);
            Checks.due("his kind", x.about(3, 0), kind);
        }
    }

    private static void promise7Purse() {
        Checks.says("Promise 7", "OUTSIDE: .. purse (a PURSE (1 to 9))");
        int[] outside = {0, 10, -1, MIN, MAX};
        for (int purse : outside) {
            Twins.refused("guest(0, " + purse + ")", Scenes::busy, x -> x.guest(0, purse), Checks.OUTSIDE);
        }
        for (int purse = 1; purse <= 9; purse++) {
            OrdersInTurn x = Scenes.busy();
            Checks.due("guest(4, " + purse + ")", x.guest(4, purse), 3);
            Checks.due("his purse", x.about(3, 1), purse);
        }
    }

    private static void promise7NoCard() {
        Checks.says("Promise 7", "STATE: no CARD");
        Twins.refused("guest(0, 1)", Scenes::noCard, x -> x.guest(0, 1), Checks.STATE);
        Twins.refused("guest(4, 9)", Scenes::noCard, x -> x.guest(4, 9), Checks.STATE);
        Checks.due("guest(0, 1) with a card", Scenes.noGuests().guest(0, 1), 0);
    }

    private static void promise7Full() {
        Checks.says("Promise 7", "GUESTS (5 at most, numbered); FULL");
        OrdersInTurn x = Scenes.noGuests();
        for (int g = 0; g < 5; g++) {
            Checks.due("guest number " + g, x.guest(g, 9 - g), g);
            Checks.due("how many", x.count(2), g + 1);
        }
        Checks.due("a sixth one", x.guest(0, 1), Checks.FULL);
        Twins.refused("guest(0, 1), a sixth one", Scenes::crowded, y -> y.guest(0, 1), Checks.FULL);
        Twins.refused("guest(4, 9), a sixth one", Scenes::crowded, y -> y.guest(4, 9), Checks.FULL);
    }

    private static void promise7OutsideAheadOfStateAndFull() {
        Checks.says("Promise 7", "OUTSIDE: kind, purse; STATE: no CARD; FULL");
        Twins.refused("guest(5, 1), no card", Scenes::noCard, x -> x.guest(5, 1), Checks.OUTSIDE);
        Twins.refused("guest(-1, 1), no card", Scenes::noCard, x -> x.guest(-1, 1), Checks.OUTSIDE);
        Twins.refused("guest(0, 0), no card", Scenes::noCard, x -> x.guest(0, 0), Checks.OUTSIDE);
        Twins.refused("guest(0, 10), no card", Scenes::noCard, x -> x.guest(0, 10), Checks.OUTSIDE);
        Twins.refused("guest(5, 1), full", Scenes::crowded, x -> x.guest(5, 1), Checks.OUTSIDE);
        Twins.refused("guest(-1, 1), full", Scenes::crowded, x -> x.guest(-1, 1), Checks.OUTSIDE);
        Twins.refused("guest(0, 0), full", Scenes::crowded, x -> x.guest(0, 0), Checks.OUTSIDE);
        Twins.refused("guest(0, 10), full", Scenes::crowded, x -> x.guest(0, 10), Checks.OUTSIDE);
    }

    private static void promise7AtFirst() {
        Checks.says("Promise 7, Terms", "WANTS (0 to 9 for each DISH; 0 at first)");
        OrdersInTurn x = Scenes.crowded();
        x.blank();
        Checks.write(x, "11,11,11,11,11,11;0");
        x.card();
        x.guest(0, 9);
        for (int d = 0; d < 6; d++) {
            Checks.due("want of dish " + d + " at first", x.want(0, d, 0), 0);
        }
        Checks.says("Promise 7", "behind all others in the round");
        x = Scenes.busy();
        x.guest(1, 9);
        // one of dish 2 is there; the new one, before 0 in the round, wants it, and so does 1 by 9
        x.want(3, 2, 9);
        Checks.due("he is behind 2 and ahead of 0: inTurn(3, 1)", x.inTurn(3, 1), 0);
        Checks.due("1 is ahead of him: inTurn(1, 1)", x.inTurn(1, 1), 2);
    }

    private static void promise8() {
        Checks.says("Promise 8", "UNKNOWN");
        for (int g : NOT_OF_THREE) {
            Twins.refused("about(" + g + ", 0)", Scenes::busy, x -> x.about(g, 0), Checks.UNKNOWN);
        }
        Twins.refused("about(5, 0) of five", Scenes::crowded, x -> x.about(5, 0), Checks.UNKNOWN);
        Twins.refused("about(0, 0) of none", Scenes::noGuests, x -> x.about(0, 0), Checks.UNKNOWN);
        Checks.due("about(0, 1) of five", Scenes.crowded().about(0, 1), 9);
        Checks.due("about(4, 1) of five", Scenes.crowded().about(4, 1), 5);
        Checks.says("Promise 8", "what = 0 .. 5; OUTSIDE");
        int[] outside = {-1, 6, MIN, MAX};
        for (int what : outside) {
            Twins.refused("about(2, " + what + ")", Scenes::busy, x -> x.about(2, what), Checks.OUTSIDE);
        }
        int[] inside = {4, 9, 1, 1, 8, 9};
        for (int what = 0; what < 6; what++) {
            Checks.due("about(2, " + what + ")", Scenes.busy().about(2, what), inside[what]);
        }
        Checks.says("Promise 8", "UNKNOWN; OUTSIDE");
        Twins.refused("about(-1, -1)", Scenes::busy, x -> x.about(-1, -1), Checks.UNKNOWN);
        Twins.refused("about(3, 6)", Scenes::busy, x -> x.about(3, 6), Checks.UNKNOWN);
    }

    private static void promise8SwayAtTheEndsOfLoath() {
        Checks.says("Promise 8, Terms", "LOATH less than nothing; of an OWN 0; of a SHY twice as much less; of a SHEEP LOATH more, of a LAMB twice that");
        int[] times = {-1, 0, -2, 1, 2};
        for (int loath = 0; loath <= 9; loath++) {
            OrdersInTurn x = Checks.withCard("11,11;" + loath);
            for (int kind = 0; kind < 5; kind++) {
                x.guest(kind, 1);
                Checks.due("SWAY of kind " + kind + " by LOATH " + loath, x.about(kind, 4), times[kind] * loath);
            }
        }
    }

    private static void promise8HasNothing() {
        Checks.says("Promise 8", "2 the DISH that he has (NONE), 3 whether he ORDERED (1, 0), .. 5 JOY now");
        OrdersInTurn x = Checks.withCard("11,19;0");
        Checks.sit(x, 0, 8, "99");
        Checks.sit(x, 0, 8, "99");
        hasIs(x, 0, Checks.NONE, 0, 0);
        x.order(0);
        hasIs(x, 0, 0, 1, 9);
        hasIs(x, 1, Checks.NONE, 0, 0);
        x.order(1);
        hasIs(x, 1, Checks.NONE, 1, 0);
        x.clear();
        hasIs(x, 0, Checks.NONE, 0, 0);
        hasIs(x, 1, Checks.NONE, 0, 0);
    }

    private static void hasIs(OrdersInTurn x, int guest, int dish, int ordered, int joy) {
        Checks.due("about(" + guest + ", 2)", x.about(guest, 2), dish);
        Checks.due("about(" + guest + ", 3)", x.about(guest, 3), ordered);
        Checks.due("about(" + guest + ", 5)", x.about(guest, 5), joy);
    }

    private static void promise9() {
        Checks.says("Promise 9", "UNKNOWN");
        for (int g : NOT_OF_THREE) {
            Twins.refused("as(" + g + ", 0)", Scenes::busy, x -> x.as(g, 0), Checks.UNKNOWN);
        }
        Twins.refused("as(5, 0) of five", Scenes::crowded, x -> x.as(5, 0), Checks.UNKNOWN);
        Checks.due("as(0, 0) of five", Scenes.crowded().as(0, 0), 0);
        Checks.due("as(4, 0) of five", Scenes.crowded().as(4, 0), 4);
        Checks.says("Promise 9", "OUTSIDE");
        int[] outside = {-1, 5, MIN, MAX};
        for (int kind : outside) {
            Twins.refused("as(2, " + kind + ")", Scenes::busy, x -> x.as(2, kind), Checks.OUTSIDE);
        }
        Checks.says("Promise 9", "UNKNOWN; OUTSIDE");
        Twins.refused("as(-1, -1)", Scenes::busy, x -> x.as(-1, -1), Checks.UNKNOWN);
        Twins.refused("as(3, 5)", Scenes::busy, x -> x.as(3, 5), Checks.UNKNOWN);
    }

    private static void promise9TheCastFails() {
        Checks.says("Promise 9", "NONE: he is none such (the cast fails)");
        // All are GUESTS; a LAMB is a SHEEP, too: a row for each guest, a column for each kind
        String[] such = {"10000", "11000", "10100", "10010", "10011"};
        for (int g = 0; g < 5; g++) {
            for (int kind = 0; kind < 5; kind++) {
                int due = such[g].charAt(kind) == '1' ? g : Checks.NONE;
                Checks.due("as(" + g + ", " + kind + ")", Scenes.crowded().as(g, kind), due);
            }
        }
    }

    private static void promise10() {
        Checks.says("Promise 10", "UNKNOWN: guest, dish");
        for (int n : NOT_OF_THREE) {
            Twins.refused("want(" + n + ", 0, 1)", Scenes::busy, x -> x.want(n, 0, 1), Checks.UNKNOWN);
            Twins.refused("want(0, " + n + ", 1)", Scenes::busy, x -> x.want(0, n, 1), Checks.UNKNOWN);
        }
        Twins.refused("want(5, 0, 1) of five", Scenes::crowded, x -> x.want(5, 0, 1), Checks.UNKNOWN);
        Twins.refused("want(0, 6, 1) of six", Scenes::crowded, x -> x.want(0, 6, 1), Checks.UNKNOWN);
        Checks.due("want(0, 0, 1)", Scenes.crowded().want(0, 0, 1), 9);
        Checks.due("want(4, 5, 1)", Scenes.crowded().want(4, 5, 1), 5);
        Checks.says("Promise 10", "OUTSIDE: v (0 to 9)");
        int[] outside = {-1, 10, MIN, MAX};
        for (int v : outside) {
            Twins.refused("want(1, 1, " + v + ")", Scenes::busy, x -> x.want(1, 1, v), Checks.OUTSIDE);
        }
        OrdersInTurn x = Scenes.busy();
        int was = 1;
        for (int v = 0; v <= 9; v++) {
            Checks.due("want(1, 1, " + v + ")", x.want(1, 1, v), was);
            was = v;
        }
        Checks.due("want(1, 1, 0)", x.want(1, 1, 0), 9);
        Checks.due("want of the dish ahead", x.want(1, 0, 8), 8);
        Checks.due("want of the dish behind", x.want(1, 2, 9), 9);
        Checks.due("want of the guest ahead", x.want(0, 1, 5), 5);
        Checks.due("want of the guest behind", x.want(2, 1, 9), 9);
    }

    private static void promise10UnknownAheadOfOutside() {
        Checks.says("Promise 10", "UNKNOWN: guest, dish; OUTSIDE: v");
        Twins.refused("want(3, 0, 10)", Scenes::busy, x -> x.want(3, 0, 10), Checks.UNKNOWN);
        Twins.refused("want(-1, 0, -1)", Scenes::busy, x -> x.want(-1, 0, -1), Checks.UNKNOWN);
        Twins.refused("want(0, 3, 10)", Scenes::busy, x -> x.want(0, 3, 10), Checks.UNKNOWN);
        Twins.refused("want(0, -1, -1)", Scenes::busy, x -> x.want(0, -1, -1), Checks.UNKNOWN);
        Twins.refused("want(3, 3, 10)", Scenes::busy, x -> x.want(3, 3, 10), Checks.UNKNOWN);
    }

    private static void promise11() {
        Checks.says("Promise 11", "UNKNOWN");
        for (int g : NOT_OF_THREE) {
            Twins.refused("purse(" + g + ", 1)", Scenes::busy, x -> x.purse(g, 1), Checks.UNKNOWN);
        }
        Twins.refused("purse(5, 1) of five", Scenes::crowded, x -> x.purse(5, 1), Checks.UNKNOWN);
        Checks.due("purse(0, 1) of five", Scenes.crowded().purse(0, 1), 9);
        Checks.due("purse(4, 1) of five", Scenes.crowded().purse(4, 1), 5);
        Checks.says("Promise 11", "OUTSIDE: v (1 to 9)");
        int[] outside = {0, 10, -1, MIN, MAX};
        for (int v : outside) {
            Twins.refused("purse(1, " + v + ")", Scenes::busy, x -> x.purse(1, v), Checks.OUTSIDE);
        }
        OrdersInTurn x = Scenes.busy();
        int was = 4;
        for (int v = 1; v <= 9; v++) {
            Checks.due("purse(1, " + v + ")", x.purse(1, v), was);
            Checks.due("about(1, 1)", x.about(1, 1), v);
            was = v;
        }
        Checks.due("purse of the guest ahead", x.about(0, 1), 5);
        Checks.says("Promise 11", "UNKNOWN; OUTSIDE");
        Twins.refused("purse(3, 0)", Scenes::busy, y -> y.purse(3, 0), Checks.UNKNOWN);
        Twins.refused("purse(-1, 10)", Scenes::busy, y -> y.purse(-1, 10), Checks.UNKNOWN);
    }

    private static void promise12() {
        Checks.says("Promise 12", "UNKNOWN");
        for (int d : NOT_OF_THREE) {
            Twins.refused("urge(" + d + ", 1)", Scenes::busy, x -> x.urge(d, 1), Checks.UNKNOWN);
            Twins.refused("urge(" + d + ", 0)", Scenes::busy, x -> x.urge(d, 0), Checks.UNKNOWN);
        }
        Twins.refused("urge(6, 1) of six", Scenes::crowded, x -> x.urge(6, 1), Checks.UNKNOWN);
        Twins.refused("urge(0, 1), no card", Scenes::noCard, x -> x.urge(0, 1), Checks.UNKNOWN);
        Checks.due("urge(5, 1) of six", Scenes.crowded().urge(5, 1), 5);
        Checks.due("urge(0, 1) of six", Scenes.crowded().urge(0, 1), 5);
        Checks.says("Promise 12", "OUTSIDE: much (0 to 20)");
        int[] outside = {-1, 21, MIN, MAX};
        for (int much : outside) {
            Twins.refused("urge(2, " + much + ")", Scenes::busy, x -> x.urge(2, much), Checks.OUTSIDE);
            Twins.refused("urge(1, " + much + ")", Scenes::busy, x -> x.urge(1, much), Checks.OUTSIDE);
        }
        for (int much = 0; much <= 20; much++) {
            OrdersInTurn x = Scenes.busy();
            Checks.due("urge(2, " + much + ")", x.urge(2, much), 1);
            Checks.due("dish(2, 3)", x.dish(2, 3), much);
        }
        Checks.says("Promise 12", "UNKNOWN; OUTSIDE");
        Twins.refused("urge(3, 21)", Scenes::busy, x -> x.urge(3, 21), Checks.UNKNOWN);
        Twins.refused("urge(-1, -1)", Scenes::busy, x -> x.urge(-1, -1), Checks.UNKNOWN);
    }

    private static void promise12NothingIs() {
        Checks.says("Promise 12", "0: nothing is; what was URGED is not any more");
        OrdersInTurn x = Scenes.busy();
        Checks.due("urge(2, 0) where 1 was", x.urge(2, 0), 1);
        Checks.due("1 is not any more", x.dish(1, 3), 0);
        Checks.due("urge(2, 0) where none was", x.urge(2, 0), Checks.NONE);
        Checks.due("urge(0, 1) where none was", x.urge(0, 1), Checks.NONE);
        Checks.due("urge(0, 20) where 0 was", x.urge(0, 20), 0);
        Checks.due("urge(2, 20) where 0 was", x.urge(2, 20), 0);
        Checks.due("0 is not any more", x.dish(0, 3), 0);
        Checks.due("urge(2, 0) where 2 was", x.urge(2, 0), 2);
        Checks.due("2 is not any more", x.dish(2, 3), 0);
        Checks.says("Promise 12, Terms", "At first .. nothing is URGED");
        Checks.due("urge(0, 0) at first", Checks.withCard("11,11;0").urge(0, 0), Checks.NONE);
    }

    private static void promise13Purse() {
        Checks.says("Promise 13, Terms", "whose PRICE his PURSE has");
        for (int price = 1; price <= 9; price++) {
            for (int purse = 1; purse <= 9; purse++) {
                OrdersInTurn x = Checks.withCard("11,1" + price + ";0");
                Checks.sit(x, 0, purse, "09");
                Checks.due("purse " + purse + ", price " + price, x.takes(0), purse >= price ? 1 : 0);
            }
        }
    }

    private static void promise13Left() {
        Checks.says("Promise 13, Terms", "of all DISHES that are LEFT; what is taken is LEFT one less");
        for (int left = 1; left <= 4; left++) {
            OrdersInTurn x = Checks.withCard("91," + left + "1;0");
            for (int g = 0; g <= left; g++) {
                Checks.sit(x, 0, 9, "09");
                Checks.due("takes(" + g + ") of " + left, x.takes(g), g < left ? 1 : 0);
                Checks.due("order(" + g + ") of " + left, x.order(g), g < left ? 1 : 0);
            }
        }
    }

    private static void promise13LikeOnes() {
        Checks.says("Promise 13, Terms", "that of most VALUE (of like ones the least)");
        Checks.due("all like", takenBy("000000"), 0);
        Checks.due("the last one is most", takenBy("000001"), 5);
        Checks.due("the first one is most", takenBy("988888"), 0);
        Checks.due("two are most", takenBy("178998"), 3);
        Checks.due("the last two are most", takenBy("888899"), 4);
        // a SHY one behind another: 0 - 18 and 0 - 18: both less than nothing, and taken all the same
        OrdersInTurn x = Checks.withCard("91,91;9");
        Checks.sit(x, 1, 9, "90");
        Checks.sit(x, 1, 9, "09");
        Checks.sit(x, 2, 9, "00");
        Checks.sit(x, 2, 9, "01");
        x.order(0);
        x.order(1);
        Checks.due("like ones below 0", x.takes(2), 0);
        Checks.due("one more, below 0", x.takes(3), 1);
    }

    private static void promise13Sway() {
        Checks.says("Promise 13, Terms", "SWAY for each who has it ahead of him");
        int[] times = {-1, 0, -2, 1, 2};
        for (int kind = 0; kind < 5; kind++) {
            for (int loath = 0; loath <= 9; loath++) {
                for (int ahead = 0; ahead <= 4; ahead++) {
                    int sway = times[kind] * loath * ahead;
                    String what = "kind " + kind + ", LOATH " + loath + ", " + ahead + " ahead";
                    Checks.due(what + ", 9 against 3", takenBehind(ahead, kind, loath, "93"), 9 + sway >= 3 ? 0 : 1);
                    Checks.due(what + ", 0 against 6", takenBehind(ahead, kind, loath, "06"), sway >= 6 ? 0 : 1);
                }
            }
        }
    }

    private static int takenBehind(int ahead, int kind, int loath, String wants) {
        OrdersInTurn x = Checks.withCard("91,91;" + loath);
        for (int g = 0; g < ahead; g++) {
            Checks.sit(x, 1, 9, "90");
            x.order(g);
        }
        return x.takes(Checks.sit(x, kind, 9, wants));
    }

    private static int takenBy(String wants) {
        OrdersInTurn x = Checks.withCard("11,11,11,11,11,11;9");
        Checks.sit(x, 0, 1, wants);
        return x.takes(0);
    }

    private static void promise13None() {
        Checks.says("Promise 13", "NONE (none, if there is no such one)");
        OrdersInTurn x = Checks.withCard("12,12,13;0");
        for (int g = 0; g < 4; g++) {
            Checks.sit(x, 0, g < 3 ? 2 : 3, "999");
        }
        x.purse(3, 1);
        Checks.due("all are too dear by one", x.takes(3), Checks.NONE);
        x.purse(3, 2);
        Checks.due("one is just not too dear", x.takes(3), 0);
        x.order(0);
        Checks.due("the other one", x.takes(2), 1);
        x.order(1);
        Checks.due("what is LEFT is too dear", x.takes(2), Checks.NONE);
        x.urge(2, 20);
        Checks.due("it is URGED, but too dear", x.takes(2), Checks.NONE);
        x.purse(3, 3);
        x.order(3);
        x.purse(2, 9);
        Checks.due("nothing is LEFT", x.takes(2), Checks.NONE);
    }

    private static void promise13HeOrdered() {
        Checks.says("Promise 13", "UNKNOWN");
        for (int g : NOT_OF_THREE) {
            Twins.refused("takes(" + g + ")", Scenes::busy, x -> x.takes(g), Checks.UNKNOWN);
        }
        Twins.refused("takes(5) of five", Scenes::crowded, x -> x.takes(5), Checks.UNKNOWN);
        Checks.due("takes(0) of five", Scenes.crowded().takes(0), 5);
        Checks.says("Promise 13", "STATE: he ORDERED");
        Twins.refused("takes(0)", Scenes::busy, x -> x.takes(0), Checks.STATE);
        Twins.refused("takes(2)", Scenes::busy, x -> x.takes(2), Checks.STATE);
        Twins.refused("takes(1), who ordered none", GuestsBoundsTest::orderedNone, x -> x.takes(1), Checks.STATE);
        Checks.due("takes(1), who did not", Scenes.busy().takes(1), 2);
    }

    /** Guest 0 has the only dish that either purse has; 1 has ordered none. */
    private static OrdersInTurn orderedNone() {
        OrdersInTurn x = Checks.withCard("11,19;0");
        Checks.sit(x, 0, 8, "12");
        Checks.sit(x, 0, 8, "34");
        x.order(0);
        x.order(1);
        return x;
    }

    private static void promise14() {
        Checks.says("Promise 14", "UNKNOWN");
        for (int g : NOT_OF_THREE) {
            Twins.refused("order(" + g + ")", Scenes::busy, x -> x.order(g), Checks.UNKNOWN);
        }
        Twins.refused("order(5) of five", Scenes::crowded, x -> x.order(5), Checks.UNKNOWN);
        Twins.refused("order(0) of none", Scenes::noGuests, x -> x.order(0), Checks.UNKNOWN);
        OrdersInTurn five = Scenes.crowded();
        Checks.due("order(0) of five", five.order(0), 5);
        Checks.says("Promise 14", "STATE: he ORDERED");
        Twins.refused("order(0)", Scenes::busy, x -> x.order(0), Checks.STATE);
        Twins.refused("order(2)", Scenes::busy, x -> x.order(2), Checks.STATE);
        Twins.refused("order(1), who ordered none", GuestsBoundsTest::orderedNone, x -> x.order(1), Checks.STATE);
        OrdersInTurn x = Scenes.busy();
        Checks.due("order(1), who did not", x.order(1), 2);
        Checks.due("order(1), who did", x.order(1), Checks.STATE);
        x.clear();
        Checks.due("order(1) behind clear()", x.order(1), 2);
    }

    private static void promise14None() {
        Checks.says("Promise 14", "NONE: none (he ORDERED all the same)");
        OrdersInTurn x = Checks.withCard("11,19;0");
        Checks.sit(x, 0, 8, "12");
        Checks.sit(x, 0, 8, "34");
        Checks.due("order(1)", x.order(1), 0);
        Checks.due("order(0)", x.order(0), Checks.NONE);
        Checks.due("he ORDERED", x.about(0, 3), 1);
        Checks.due("how many ORDERED", x.count(3), 2);
        Checks.due("LEFT of 0", x.dish(0, 0), 0);
        Checks.due("LEFT of 1", x.dish(1, 0), 1);
        Checks.due("who have 1", x.dish(1, 2), 0);
        Checks.due("image()", x.image(), 2);
        Checks.due("clear()", x.clear(), 2);
    }

    private static void promise15() {
        Checks.says("Promise 15", "CLEARED: how many had ORDERED");
        Checks.due("clear(), no card", new OrdersInTurn().clear(), 0);
        Checks.due("clear(), no guests", Scenes.noGuests().clear(), 0);
        Checks.due("clear() of one in five", Scenes.crowded().clear(), 1);
        OrdersInTurn x = Scenes.crowded();
        for (int g = 0; g < 4; g++) {
            x.order(g);
        }
        Checks.due("clear() of five", x.clear(), 5);
        Checks.due("clear() again", x.clear(), 0);
        Checks.says("Promise 15, Terms", "nobody has ORDERED, all is LEFT as on THE CARD");
        int[] left = {1, 2, 3, 1, 2, 3};
        for (int d = 0; d < 6; d++) {
            Checks.due("LEFT of " + d, x.dish(d, 0), left[d]);
            Checks.due("who have " + d, x.dish(d, 2), 0);
        }
        for (int g = 0; g < 5; g++) {
            hasIs(x, g, Checks.NONE, 0, 0);
        }
        Checks.due("EVENINGS stay", x.count(5), 4);
        Checks.due("URGE stays", x.dish(5, 3), 20);
    }
}
