import java.util.function.Supplier;

/** Promises 16 to 22, sentence by sentence: just inside and just outside of each bound. */
public final class WouldBeBoundsTest {
    private static final int MIN = Integer.MIN_VALUE;
    private static final int MAX = Integer.MAX_VALUE;
    /** No guests of three, nor dishes: beside the first and the last one, and far off. */
    private static final int[] NOT_OF_THREE = {-1, 3, -2, 5, MIN, MAX};
    /** No what of 0 and 1. */
    private static final int[] NOT_OF_TWO = {-1, 2, MIN, MAX};

    public static void main(String[] args) {
        promise16Unknown();
        promise16TheFirstOneBehindTheLastOne();
        promise16None();
        promise17Guest();
        promise17What();
        promise17NoGuests();
        promise17FirstAsTold();
        promise17LikeOnes();
        promise18What();
        promise18NoCard();
        promise18TwentyTimes();
        promise18Left();
        promise18Purse();
        promise18MoreValue();
        promise18ThereAreNone();
        promise19Unknown();
        promise19NoLess();
        promise19Twenty();
        promise20NoCard();
        promise20Left();
        promise20Purse();
        promise21What();
        promise21Five();
        promise21NotByAll();
        promise21LikeOnes();
        promise22Unknown();
        promise22Times();
        promise22ZeroToTwenty();
        promise22NotByTwenty();
        promise22WhateverIsUrged();
        Checks.close("WouldBeBoundsTest");
    }

    /** Five OWN guests who want 0 by 9, 1 by 8 and so on; one is left of each. */
    private static OrdersInTurn inARow() {
        OrdersInTurn x = Checks.withCard("11,11,11,11,11;9");
        for (int g = 0; g < 5; g++) {
            Checks.sit(x, 1, 1, "98765");
        }
        return x;
    }

    private static void promise16Unknown() {
        Checks.says("Promise 16", "UNKNOWN: first, guest");
        for (int n : NOT_OF_THREE) {
            Twins.refused("inTurn(" + n + ", 0)", Scenes::busy, x -> x.inTurn(n, 0), Checks.UNKNOWN);
            Twins.refused("inTurn(0, " + n + ")", Scenes::busy, x -> x.inTurn(0, n), Checks.UNKNOWN);
        }
        Twins.refused("inTurn(5, 0) of five", Scenes::crowded, x -> x.inTurn(5, 0), Checks.UNKNOWN);
        Twins.refused("inTurn(0, 5) of five", Scenes::crowded, x -> x.inTurn(0, 5), Checks.UNKNOWN);
        Twins.refused("inTurn(0, 0) of none", Scenes::noGuests, x -> x.inTurn(0, 0), Checks.UNKNOWN);
        Twins.refused("inTurn(0, 0), no card", Scenes::noCard, x -> x.inTurn(0, 0), Checks.UNKNOWN);
    }

    private static void promise16TheFirstOneBehindTheLastOne() {
        Checks.says("Promise 16, Terms", "sit in a round by number (the first one behind the last one)");
        OrdersInTurn x = inARow();
        for (int first = 0; first < 5; first++) {
            for (int i = 0; i < 5; i++) {
                int guest = (first + i) % 5;
                Checks.due("inTurn(" + first + ", " + guest + ")", x.inTurn(first, guest), i);
            }
        }
        x = Checks.withCard("11,11;9");
        Checks.sit(x, 0, 1, "01");
        Checks.due("a round of one", x.inTurn(0, 0), 1);
        Checks.sit(x, 0, 1, "01");
        Checks.due("a round of two, from the last one", x.inTurn(1, 0), 0);
        Checks.due("a round of two, the last one himself", x.inTurn(1, 1), 1);
    }

    private static void promise16None() {
        Checks.says("Promise 16", "the DISH of a GUEST; NONE");
        OrdersInTurn x = Checks.withCard("21,11;0");
        for (int g = 0; g < 4; g++) {
            Checks.sit(x, 1, 1, "99");
        }
        int[] had = {0, 0, 1, Checks.NONE};
        for (int first = 0; first < 4; first++) {
            for (int i = 0; i < 4; i++) {
                int guest = (first + i) % 4;
                Checks.due("inTurn(" + first + ", " + guest + ")", x.inTurn(first, guest), had[i]);
            }
        }
        x = Checks.withCard("25,25;0");
        x.guest(0, 4);
        x.guest(0, 5);
        Checks.due("too dear by one", x.inTurn(0, 0), Checks.NONE);
        Checks.due("just not too dear", x.inTurn(0, 1), 0);
    }

    private static void promise17Guest() {
        Checks.says("Promise 17", "BEGIN for a GUEST (NONE: for all); UNKNOWN");
        int[] unknown = {-2, 3, 5, MIN, MAX};
        for (int g : unknown) {
            Twins.refused("begin(" + g + ", 0)", Scenes::busy, x -> x.begin(g, 0), Checks.UNKNOWN);
            Twins.refused("begin(" + g + ", 1)", Scenes::busy, x -> x.begin(g, 1), Checks.UNKNOWN);
        }
        Twins.refused("begin(5, 0) of five", Scenes::crowded, x -> x.begin(5, 0), Checks.UNKNOWN);
        OrdersInTurn x = inARow();
        for (int g = 0; g < 5; g++) {
            Checks.due("begin(" + g + ", 0)", x.begin(g, 0), g);
            Checks.due("begin(" + g + ", 1)", x.begin(g, 1), 9);
        }
        Checks.due("begin(-1, 0)", x.begin(-1, 0), 0);
        Checks.due("begin(-1, 1)", x.begin(-1, 1), 35);
    }

    private static void promise17What() {
        Checks.says("Promise 17", "what = 0 from whom on, 1 how much JOY. .. OUTSIDE");
        for (int what : NOT_OF_TWO) {
            Twins.refused("begin(0, " + what + ")", Scenes::busy, x -> x.begin(0, what), Checks.OUTSIDE);
            Twins.refused("begin(-1, " + what + ")", Scenes::busy, x -> x.begin(-1, what), Checks.OUTSIDE);
        }
    }

    private static void promise17NoGuests() {
        Checks.says("Promise 17", "STATE: there are no GUESTS");
        Twins.refused("begin(-1, 0)", Scenes::noGuests, x -> x.begin(-1, 0), Checks.STATE);
        Twins.refused("begin(-1, 1)", Scenes::noGuests, x -> x.begin(-1, 1), Checks.STATE);
        Twins.refused("begin(-1, 0), no card", Scenes::noCard, x -> x.begin(-1, 0), Checks.STATE);
        OrdersInTurn x = Scenes.noGuests();
        Checks.sit(x, 0, 9, "010");
        Checks.due("begin(-1, 0) with one", x.begin(-1, 0), 0);
        Checks.due("begin(-1, 1) with one", x.begin(-1, 1), 1);
    }

    private static void promise17FirstAsTold() {
        Checks.says("Promise 17", "UNKNOWN; OUTSIDE; STATE: there are no GUESTS");
        Twins.refused("begin(3, 2)", Scenes::busy, x -> x.begin(3, 2), Checks.UNKNOWN);
        Twins.refused("begin(-2, -1)", Scenes::busy, x -> x.begin(-2, -1), Checks.UNKNOWN);
        Twins.refused("begin(0, 0), no guests", Scenes::noGuests, x -> x.begin(0, 0), Checks.UNKNOWN);
        Twins.refused("begin(0, 2), no guests", Scenes::noGuests, x -> x.begin(0, 2), Checks.UNKNOWN);
        Twins.refused("begin(-1, 2), no guests", Scenes::noGuests, x -> x.begin(-1, 2), Checks.OUTSIDE);
        Twins.refused("begin(-1, -1), no card", Scenes::noCard, x -> x.begin(-1, -1), Checks.OUTSIDE);
    }

    private static void promise17LikeOnes() {
        Checks.says("Promise 17, section 2", "from whom on his JOY is most; of like ones the least");
        OrdersInTurn x = Checks.withCard("11,11,11;0");
        Checks.sit(x, 1, 1, "980");
        Checks.sit(x, 1, 1, "990");
        Checks.sit(x, 1, 1, "909");
        // from 0 on they have 9 9 9, from 1 on 8 9 9, from 2 on 8 0 9
        Checks.due("begin(1, 0)", x.begin(1, 0), 0);
        Checks.due("begin(1, 1)", x.begin(1, 1), 9);
        Checks.due("begin(-1, 0)", x.begin(-1, 0), 0);
        Checks.due("begin(-1, 1)", x.begin(-1, 1), 27);
        // both 0 and 1 want dish 1 alone now: from 0 on they have 8 0 9, from 1 on 0 9 9, from 2 on 8 0 9
        x.want(0, 0, 0);
        x.want(1, 0, 0);
        Checks.due("begin(0, 0)", x.begin(0, 0), 0);
        Checks.due("begin(1, 0), from himself alone", x.begin(1, 0), 1);
        Checks.due("begin(1, 1), from himself alone", x.begin(1, 1), 9);
        Checks.due("for all from 1 on", x.begin(-1, 0), 1);
        Checks.due("for all from 1 on, JOY", x.begin(-1, 1), 18);
        x = Checks.withCard("19,19;0");
        x.guest(0, 8);
        x.guest(0, 8);
        Checks.due("no JOY from anywhere", x.begin(1, 0), 0);
        Checks.due("no JOY", x.begin(1, 1), 0);
        Checks.due("no JOY for all", x.begin(-1, 1), 0);
    }

    private static void promise18What() {
        Checks.says("Promise 18", "what = 0 in how many ways, 1 the most JOY. .. OUTSIDE");
        for (int what : NOT_OF_TWO) {
            Twins.refused("atOnce(" + what + ")", Scenes::busy, x -> x.atOnce(what), Checks.OUTSIDE);
        }
        Checks.says("Promise 18", "OUTSIDE; STATE: no CARD, or atOnce() was done 20 times");
        Twins.refused("atOnce(-1), no card", Scenes::noCard, x -> x.atOnce(-1), Checks.OUTSIDE);
        Twins.refused("atOnce(2), no card", Scenes::noCard, x -> x.atOnce(2), Checks.OUTSIDE);
        Twins.refused("atOnce(-1), done 20 times", Scenes::crowded, x -> x.atOnce(-1), Checks.OUTSIDE);
        Twins.refused("atOnce(2), done 20 times", Scenes::crowded, x -> x.atOnce(2), Checks.OUTSIDE);
    }

    private static void promise18NoCard() {
        Checks.says("Promise 18", "STATE: no CARD");
        Twins.refused("atOnce(0)", Scenes::noCard, x -> x.atOnce(0), Checks.STATE);
        Twins.refused("atOnce(1)", Scenes::noCard, x -> x.atOnce(1), Checks.STATE);
        OrdersInTurn x = Scenes.noGuests();
        Checks.due("atOnce(0), nobody there: one way", x.atOnce(0), 1);
        Checks.due("atOnce(1), nobody there", x.atOnce(1), 0);
    }

    private static void promise18TwentyTimes() {
        Checks.says("Promise 18", "STATE: .. atOnce() was done 20 times");
        OrdersInTurn x = inARow();
        x.atOnce(2);
        for (int i = 0; i < 20; i++) {
            Checks.due("done so far", x.count(8), i);
            Checks.due("atOnce, time " + (i + 1), x.atOnce(i % 2), i % 2 == 0 ? 120 : 35);
        }
        Checks.due("atOnce(0), time 21", x.atOnce(0), Checks.STATE);
        Checks.due("done in all", x.count(8), 20);
        Twins.refused("atOnce(0), time 21", Scenes::crowded, y -> y.atOnce(0), Checks.STATE);
        Twins.refused("atOnce(1), time 21", Scenes::crowded, y -> y.atOnce(1), Checks.STATE);
        Checks.says("Promise 18", "STATE: no CARD, .. (a refused call is not done)");
        x = Scenes.noCard();
        for (int i = 0; i < 20; i++) {
            x.atOnce(0);
        }
        x.blank();
        Checks.write(x, "11,11;0");
        x.card();
        Checks.due("atOnce(0) behind 20 refused ones", x.atOnce(0), 1);
    }

    private static OrdersInTurn alike(String card, int kind, int guests, String wants) {
        OrdersInTurn x = Checks.withCard(card);
        for (int g = 0; g < guests; g++) {
            Checks.sit(x, kind, 5, wants);
        }
        return x;
    }

    private static void atOnceIs(String what, OrdersInTurn x, int ways, int joy) {
        Checks.due(what + ": atOnce(0)", x.atOnce(0), ways);
        Checks.due(what + ": atOnce(1)", x.atOnce(1), joy);
    }

    private static void promise18Left() {
        Checks.says("Promise 18, section 2", "no more of one than LEFT on THE CARD; .. and that is LEFT then");
        // as many as there are have dish 0: that many of five
        int[] ways = {5, 10, 10, 5, 1};
        for (int left = 1; left <= 5; left++) {
            atOnceIs(left + " of 0", alike(left + "1,91;0", 1, 5, "90"), ways[left - 1], 9 * left);
        }
        atOnceIs("9 of 0", alike("91,91;0", 1, 5, "90"), 1, 45);
        // one of each of six: any five of them; not the last one; surely the last one
        atOnceIs("like ones of six", alike("11,11,11,11,11,11;0", 1, 5, "777777"), 720, 35);
        atOnceIs("all but the last of six", alike("11,11,11,11,11,11;0", 1, 5, "777770"), 120, 35);
        atOnceIs("the last of six", alike("11,11,11,11,11,11;0", 1, 5, "000009"), 600, 9);
        atOnceIs("the first of six", alike("11,11,11,11,11,11;0", 1, 5, "900000"), 600, 9);
        OrdersInTurn ordered = alike("11,91;0", 1, 2, "90");
        ordered.order(0);
        ordered.order(1);
        atOnceIs("whatever is LEFT now", ordered, 2, 9);
        atOnceIs("fewer than guests", alike("11,11;0", 1, 3, "99"), 0, Checks.NONE);
    }

    private static void promise18Purse() {
        Checks.says("Promise 18, section 2", "which his PURSE has; .. by another one that his PURSE has");
        atOnceIs("just not too dear", alike("95,91;0", 1, 1, "90"), 1, 9);
        atOnceIs("too dear by one", alike("96,91;0", 1, 1, "90"), 1, 0);
        atOnceIs("all just not too dear", alike("95,95;0", 1, 2, "99"), 4, 18);
        atOnceIs("all too dear by one", alike("96,96;0", 1, 1, "99"), 0, Checks.NONE);
    }

    private static void promise18MoreValue() {
        Checks.says("Promise 18, section 2", "nobody would have more VALUE alone by another one .. (all others who have the same count as ahead of him)");
        atOnceIs("like VALUE is not more", alike("91,91;9", 0, 1, "44"), 2, 4);
        atOnceIs("one more is more", alike("91,91;9", 0, 1, "45"), 1, 5);
        // two GUESTS, LOATH 3: both on 0 if 5 - 3 is no less than what 1 is
        atOnceIs("both on 0, 5 - 3 against 1", alike("91,91;3", 0, 2, "51"), 1, 10);
        atOnceIs("both on 0 or apart, 5 - 3 against 2", alike("91,91;3", 0, 2, "52"), 3, 10);
        atOnceIs("apart, 5 - 3 against 3", alike("91,91;3", 0, 2, "53"), 2, 8);
        // two SHEEP: together on 0 always, on 1 if 0 is no more than 3 above it
        atOnceIs("both on either, 3 against 0 + 3", alike("91,91;3", 3, 2, "30"), 2, 6);
        atOnceIs("both on 0, 4 against 0 + 3", alike("91,91;3", 3, 2, "40"), 1, 8);
    }

    private static void promise18ThereAreNone() {
        Checks.says("Promise 18", "NONE: there are none");
        OrdersInTurn x = Checks.withCard("91,91;1");
        Checks.sit(x, 0, 9, "00");
        Checks.sit(x, 3, 9, "00");
        atOnceIs("one flees, one follows", x, 0, Checks.NONE);
        x = Checks.withCard("91,91;0");
        Checks.sit(x, 0, 9, "00");
        Checks.sit(x, 3, 9, "00");
        atOnceIs("LOATH 0: neither does", x, 4, 0);
    }

    private static void promise19Unknown() {
        Checks.says("Promise 19", "UNKNOWN");
        for (int n : NOT_OF_THREE) {
            Twins.refused("minds(" + n + ")", Scenes::busy, x -> x.minds(n), Checks.UNKNOWN);
        }
        Twins.refused("minds(5) of five", Scenes::crowded, x -> x.minds(5), Checks.UNKNOWN);
        Twins.refused("minds(0) of none", Scenes::noGuests, x -> x.minds(0), Checks.UNKNOWN);
        Twins.refused("minds(0), no card", Scenes::noCard, x -> x.minds(0), Checks.UNKNOWN);
        Checks.due("minds(0) of five", inARow().minds(0), 1);
        Checks.due("minds(4) of five", inARow().minds(4), 1);
    }

    private static int mindsBehindAnOwn(int loath, String wants) {
        OrdersInTurn x = Checks.withCard("91,91;" + loath);
        Checks.sit(x, 0, 9, wants);
        Checks.sit(x, 1, 9, "09");
        return x.minds(0);
    }

    private static void promise19NoLess() {
        Checks.says("Promise 19, section 2", "but what he had, if its VALUE is no less");
        Checks.due("he keeps 5 - 1 against 3", mindsBehindAnOwn(1, "35"), 1);
        Checks.due("he keeps 5 - 2 against 3", mindsBehindAnOwn(2, "35"), 1);
        Checks.due("he leaves 5 - 3 against 3", mindsBehindAnOwn(3, "35"), 2);
        Checks.says("Promise 19, section 2", "gives back what he has, and TAKES anew");
        OrdersInTurn x = Checks.withCard("11,19;9");
        Checks.sit(x, 0, 1, "00");
        Checks.due("the only one of it is his to take anew", x.minds(0), 1);
        Checks.sit(x, 0, 1, "00");
        Checks.due("who has none keeps none", x.minds(1), 1);
    }

    private static final int[] TWENTY_LEFT = {1, 5, 5, 3, 3};
    private static final int[] TWENTY_PRICE = {2, 3, 3, 3, 2};
    private static final int[] TWENTY_KIND = {2, 4, 3, 0, 3};
    private static final int[] TWENTY_PURSE = {3, 2, 8, 7, 3};
    private static final String[] TWENTY_WANTS = {"45840", "48092", "88061", "86873", "82383"};

    private static final int[] MORE_LEFT = {2, 3, 2, 5, 4};
    private static final int[] MORE_PRICE = {2, 1, 1, 1, 4};
    private static final int[] MORE_KIND = {0, 4, 2, 3, 2};
    private static final int[] MORE_PURSE = {3, 1, 7, 7, 7};
    private static final String[] MORE_WANTS = {"00919", "40116", "49959", "72843", "14832"};

    /** The two tables against the rounds that a plain walk by the words of section 2 takes, without its limit. */
    private static void promise19Twenty() {
        Checks.says("Promise 19", "(1 to 20) .. NONE: not in 20");
        PlainMinds twenty = new PlainMinds(6, TWENTY_LEFT, TWENTY_PRICE, TWENTY_KIND, TWENTY_PURSE, TWENTY_WANTS);
        twenty.urge(2, 3);
        PlainMinds more = new PlainMinds(9, MORE_LEFT, MORE_PRICE, MORE_KIND, MORE_PURSE, MORE_WANTS);
        Checks.due("the first table, by a plain walk", twenty.rounds(0), 20);
        Checks.due("the second table, by a plain walk", more.rounds(0), 21);
        for (PlainMinds table : new PlainMinds[] {twenty, more}) {
            OrdersInTurn x = table.laid();
            for (int first = 0; first < 5; first++) {
                int rounds = table.rounds(first);
                Checks.due("minds(" + first + ")", x.minds(first), rounds <= 20 ? rounds : Checks.NONE);
            }
        }
        Checks.due("20 rounds", twenty.laid().minds(0), 20);
        Checks.due("21 rounds", more.laid().minds(0), Checks.NONE);
        OrdersInTurn never = Checks.withCard("91,91;5");
        Checks.sit(never, 0, 9, "00");
        Checks.sit(never, 3, 9, "00");
        Checks.due("never", never.minds(0), Checks.NONE);
    }

    private static void promise20NoCard() {
        Checks.says("Promise 20", "STATE: no CARD");
        Twins.refused("host()", Scenes::noCard, x -> x.host(), Checks.STATE);
        Twins.refused("host(), all new", OrdersInTurn::new, x -> x.host(), Checks.STATE);
        Checks.due("host(), nobody there", Scenes.noGuests().host(), 0);
    }

    private static void promise20Left() {
        Checks.says("Promise 20, section 2", "or none, no more of one than LEFT on THE CARD");
        for (int left = 1; left <= 9; left++) {
            OrdersInTurn x = alike(left + "1,91;9", 0, 5, "90");
            Checks.due(left + " of 0", x.host(), 9 * Math.min(left, 5));
            x.order(0);
            Checks.due(left + " of 0, one ordered", x.host(), 9 * Math.min(left, 5));
        }
        Checks.due("one guest", alike("11,11;0", 0, 1, "48").host(), 8);
        Checks.due("two for five, the others none", alike("11,11;0", 0, 5, "97").host(), 16);
        Checks.due("all that can be", alike("91,91,91,91,91,91;9", 2, 5, "000009").host(), 45);
        Checks.due("one of each of six", alike("11,11,11,11,11,11;9", 2, 5, "456789").host(), 35);
    }

    private static void promise20Purse() {
        Checks.says("Promise 20, section 2", "a DISH that his PURSE has");
        Checks.due("just not too dear", alike("95,91;0", 0, 2, "91").host(), 18);
        Checks.due("too dear by one", alike("96,91;0", 0, 2, "91").host(), 2);
        Checks.due("all too dear by one", alike("96,96;0", 0, 2, "99").host(), 0);
    }

    private static void promise21What() {
        Checks.says("Promise 21", "what = 0 how few, 1 which, as bits; .. OUTSIDE");
        for (int what : NOT_OF_TWO) {
            Twins.refused("fewest(" + what + ")", Scenes::busy, x -> x.fewest(what), Checks.OUTSIDE);
        }
        Checks.says("Promise 21", "STATE: no CARD");
        Twins.refused("fewest(0)", Scenes::noCard, x -> x.fewest(0), Checks.STATE);
        Twins.refused("fewest(1)", Scenes::noCard, x -> x.fewest(1), Checks.STATE);
        fewestIs("nobody there", Scenes.noGuests(), 0, 0);
        Checks.says("Promise 21", "OUTSIDE; STATE: no CARD");
        Twins.refused("fewest(2), no card", Scenes::noCard, x -> x.fewest(2), Checks.OUTSIDE);
        Twins.refused("fewest(-1), no card", Scenes::noCard, x -> x.fewest(-1), Checks.OUTSIDE);
    }

    private static void fewestIs(String what, OrdersInTurn x, int few, int bits) {
        Checks.due(what + ": fewest(0)", x.fewest(0), few);
        Checks.due(what + ": fewest(1)", x.fewest(1), bits);
    }

    private static void promise21Five() {
        Checks.says("Promise 21, section 2", "that he WANTS 5 or more (whatever is LEFT, its PRICE)");
        fewestIs("4 is less", alike("19,19;0", 0, 5, "44"), Checks.NONE, Checks.NONE);
        fewestIs("5 is enough", alike("19,19;0", 0, 5, "45"), 1, 2);
        fewestIs("6 is no better than 5", alike("19,19;0", 0, 5, "56"), 1, 1);
        OrdersInTurn x = alike("11,11;0", 0, 2, "50");
        x.order(0);
        fewestIs("none is LEFT now", x, 1, 1);
    }

    private static OrdersInTurn eachAnother(String card, int shift) {
        OrdersInTurn x = Checks.withCard(card);
        for (int g = 0; g < 5; g++) {
            x.guest(0, 1);
            x.want(g, g + shift, 5);
        }
        return x;
    }

    private static void promise21NotByAll() {
        Checks.says("Promise 21", "NONE: not by all");
        OrdersInTurn x = eachAnother("11,11,11,11,11,11;0", 0);
        fewestIs("five for five", x, 5, 31);
        x.want(4, 4, 4);
        fewestIs("the last one has none", x, Checks.NONE, Checks.NONE);
        x = eachAnother("11,11,11,11,11,11;0", 1);
        fewestIs("the last five of six", x, 5, 62);
        x.want(0, 1, 4);
        fewestIs("the first one has none", x, Checks.NONE, Checks.NONE);
    }

    private static void promise21LikeOnes() {
        Checks.says("Promise 21, section 2", "which: of like ones the least");
        OrdersInTurn fewer = Checks.withCard("11,11,11;0");
        Checks.sit(fewer, 0, 1, "505");
        Checks.sit(fewer, 0, 1, "055");
        fewestIs("one, though two are less as bits", fewer, 1, 4);
        fewestIs("all are like", alike("11,11,11,11,11,11;0", 0, 5, "999999"), 1, 1);
        fewestIs("the last two are", alike("11,11,11,11,11,11;0", 0, 5, "444455"), 1, 16);
        OrdersInTurn x = Checks.withCard("11,11,11,11;0");
        // 0 and 3 do it (bits 9), and so do 1 and 2 (bits 6)
        Checks.sit(x, 0, 1, "5050");
        Checks.sit(x, 0, 1, "5500");
        Checks.sit(x, 0, 1, "0505");
        Checks.sit(x, 0, 1, "0055");
        fewestIs("two pairs", x, 2, 6);
    }

    private static void promise22Unknown() {
        Checks.says("Promise 22", "UNKNOWN: dish, first");
        for (int n : NOT_OF_THREE) {
            Twins.refused("urges(" + n + ", 0, 1)", Scenes::busy, x -> x.urges(n, 0, 1), Checks.UNKNOWN);
            Twins.refused("urges(0, " + n + ", 1)", Scenes::busy, x -> x.urges(0, n, 1), Checks.UNKNOWN);
        }
        Twins.refused("urges(6, 0, 1) of six", Scenes::crowded, x -> x.urges(6, 0, 1), Checks.UNKNOWN);
        Twins.refused("urges(0, 5, 1) of five", Scenes::crowded, x -> x.urges(0, 5, 1), Checks.UNKNOWN);
        Twins.refused("urges(0, 0, 1) of none", Scenes::noGuests, x -> x.urges(0, 0, 1), Checks.UNKNOWN);
        Twins.refused("urges(0, 0, 1), no card", Scenes::noCard, x -> x.urges(0, 0, 1), Checks.UNKNOWN);
        Checks.due("urges(4, 4, 1)", inARow().urges(4, 4, 1), 0);
        Checks.due("urges(0, 0, 1)", inARow().urges(0, 0, 1), 0);
        Checks.says("Promise 22", "UNKNOWN: dish, first; OUTSIDE: times");
        Twins.refused("urges(3, 0, 0)", Scenes::busy, x -> x.urges(3, 0, 0), Checks.UNKNOWN);
        Twins.refused("urges(-1, 0, 6)", Scenes::busy, x -> x.urges(-1, 0, 6), Checks.UNKNOWN);
        Twins.refused("urges(0, 3, 6)", Scenes::busy, x -> x.urges(0, 3, 6), Checks.UNKNOWN);
        Twins.refused("urges(0, -1, 0)", Scenes::busy, x -> x.urges(0, -1, 0), Checks.UNKNOWN);
    }

    private static void promise22Times() {
        Checks.says("Promise 22", "OUTSIDE: times (1 to 5)");
        int[] outside = {0, 6, -1, MIN, MAX};
        for (int times : outside) {
            Twins.refused("urges(0, 0, " + times + ")", Scenes::busy, x -> x.urges(0, 0, times), Checks.OUTSIDE);
        }
        Checks.says("Promise 22, section 2", "it is taken so many times at least");
        for (int left = 1; left <= 5; left++) {
            for (int times = 1; times <= 5; times++) {
                OrdersInTurn x = alike(left + "1,91;0", 1, 5, "90");
                int due = times <= left ? 0 : Checks.NONE;
                Checks.due(times + " times, " + left + " are LEFT", x.urges(0, 4, times), due);
                x = alike("91,91;0", 1, left, "09");
                due = times <= left ? 9 : Checks.NONE;
                Checks.due(times + " times, " + left + " guests", x.urges(0, 0, times), due);
            }
        }
    }

    /** One OWN guest has a dish; a SHY one behind him wants the other one. */
    private static OrdersInTurn behindAnOwn(String card, String own, String shy) {
        OrdersInTurn x = Checks.withCard(card);
        Checks.sit(x, 1, 5, own);
        Checks.sit(x, 2, 5, shy);
        return x;
    }

    private static void promise22ZeroToTwenty() {
        Checks.says("Promise 22, section 2", "the least URGE (0 to 20)");
        Checks.due("0 against 0, for the least", alike("11,11;0", 0, 1, "00").urges(0, 0, 1), 0);
        Checks.due("0 against 0, for the other", alike("11,11;0", 0, 1, "00").urges(1, 0, 1), 1);
        Checks.due("0 against 9, for the least", alike("11,11;0", 0, 1, "09").urges(0, 0, 1), 9);
        Checks.due("0 against 9, for the other", alike("11,11;0", 0, 1, "90").urges(1, 0, 1), 10);
        // 0 - 12 against 7, 8, 9 for the least dish; 0 - 10 against 8, 9 for the other one
        Checks.due("19 for the least", behindAnOwn("91,91;6", "90", "07").urges(0, 0, 2), 19);
        Checks.due("20 for the least", behindAnOwn("91,91;6", "90", "08").urges(0, 0, 2), 20);
        Checks.due("19 for the other", behindAnOwn("91,91;5", "09", "80").urges(1, 0, 2), 19);
        Checks.due("20 for the other", behindAnOwn("91,91;5", "09", "90").urges(1, 0, 2), 20);
    }

    private static void promise22NotByTwenty() {
        Checks.says("Promise 22", "NONE: not by 20");
        Checks.due("21 for the least", behindAnOwn("91,91;6", "90", "09").urges(0, 0, 2), Checks.NONE);
        Checks.due("21 for the other", behindAnOwn("91,91;6", "09", "80").urges(1, 0, 2), Checks.NONE);
        Checks.due("too dear by one", alike("91,96;0", 0, 1, "00").urges(1, 0, 1), Checks.NONE);
        Checks.due("just not too dear", alike("91,95;0", 0, 1, "00").urges(1, 0, 1), 1);
    }

    private static void promise22WhateverIsUrged() {
        Checks.says("Promise 22", "whatever is URGED now");
        Supplier<OrdersInTurn> laid = () -> behindAnOwn("91,91;5", "09", "90");
        for (int dish = 0; dish < 2; dish++) {
            OrdersInTurn x = laid.get();
            x.urge(dish, 20);
            x.order(0);
            Checks.due("20 with " + dish + " URGED", x.urges(1, 0, 2), 20);
            Checks.due("0 with " + dish + " URGED", x.urges(1, 0, 1), 0);
            Checks.due(dish + " is URGED still", x.dish(dish, 3), 20);
        }
    }
}
