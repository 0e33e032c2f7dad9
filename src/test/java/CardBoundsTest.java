/** Promises 1 to 6, sentence by sentence: just inside and just outside of each bound. */
public final class CardBoundsTest {
    private static final String SIX = "99,99,99,99,99,99;9";

    public static void main(String[] args) {
        promise1NoCard();
        promise2Code();
        promise2Full();
        promise2OutsideAheadOfFull();
        promise3Empty();
        promise4EveryLetterAtEveryPlace();
        promise4Behind();
        promise5HowManyDishes();
        promise5Digits();
        promise5ItIsNone();
        promise5AnotherOneIsGone();
        promise6UnknownDish();
        promise6OutsideWhat();
        promise6UnknownAheadOfOutside();
        promise6NumbersAtTheirEnds();
        Checks.close("CardBoundsTest");
    }

    private static void promise1NoCard() {
        Checks.says("Promise 1", "No CARD");
        Checks.due("dishes", new OrdersInTurn().count(0), 0);
        Checks.due("cards read", new OrdersInTurn().count(7), 0);
        Twins.refused("guest(0, 1)", OrdersInTurn::new, x -> x.guest(0, 1), Checks.STATE);
        Twins.refused("atOnce(0)", OrdersInTurn::new, x -> x.atOnce(0), Checks.STATE);
        Twins.refused("host()", OrdersInTurn::new, x -> x.host(), Checks.STATE);
        Twins.refused("fewest(0)", OrdersInTurn::new, x -> x.fewest(0), Checks.STATE);
        Twins.refused("fits(0)", OrdersInTurn::new, x -> x.fits(0), Checks.STATE);
        Twins.refused("image()", OrdersInTurn::new, x -> x.image(), Checks.STATE);
        Twins.refused("restore()", OrdersInTurn::new, x -> x.restore(), Checks.STATE);
        Twins.refused("begin(-1, 0)", OrdersInTurn::new, x -> x.begin(-1, 0), Checks.STATE);
        Twins.refused("evenings(1, 0, 0)", OrdersInTurn::new, x -> x.evenings(1, 0, 0), Checks.STATE);
        Twins.refused("dish(0, 0)", OrdersInTurn::new, x -> x.dish(0, 0), Checks.UNKNOWN);
        Twins.refused("urge(0, 0)", OrdersInTurn::new, x -> x.urge(0, 0), Checks.UNKNOWN);
        Twins.refused("about(0, 0)", OrdersInTurn::new, x -> x.about(0, 0), Checks.UNKNOWN);
        Twins.refused("evening(0, 0, -1)", OrdersInTurn::new, x -> x.evening(0, 0, -1), Checks.UNKNOWN);
    }

    private static void promise2Code() {
        Checks.says("Promise 2", "OUTSIDE: code (1 to 126)");
        int[] outside = {0, 127, -1, 128, 256 + '1', Integer.MIN_VALUE, Integer.MAX_VALUE};
        for (int code : outside) {
            Twins.refused("letter(" + code + ")", Scenes::busy, x -> x.letter(code), Checks.OUTSIDE);
            Twins.refused("letter(" + code + "), no card", OrdersInTurn::new, x -> x.letter(code), Checks.OUTSIDE);
        }
        for (int code = 1; code <= 126; code++) {
            OrdersInTurn x = Scenes.noCard();
            Checks.due("letter(" + code + ")", x.letter(code), 5);
            Checks.due("letters behind letter(" + code + ")", x.count(6), 5);
        }
    }

    private static void promise2Full() {
        Checks.says("Promise 2", "FULL: above 22");
        OrdersInTurn x = new OrdersInTurn();
        for (int i = 1; i <= 22; i++) {
            Checks.due("letter number " + i, x.letter(i), i);
        }
        Checks.due("letter number 23", x.letter('1'), Checks.FULL);
        Checks.due("letter number 23 again", x.letter('1'), Checks.FULL);
        Checks.due("blank() behind it", x.blank(), 22);
        Checks.due("letter behind blank()", x.letter('1'), 1);
        Twins.refused("letter('1')", Scenes::fullPage, y -> y.letter('1'), Checks.FULL);
        Twins.refused("letter(126)", Scenes::crowded, y -> y.letter(126), Checks.FULL);
    }

    private static void promise2OutsideAheadOfFull() {
        Checks.says("Promise 2", "OUTSIDE: code (1 to 126); FULL: above 22");
        Twins.refused("letter(0), page full", Scenes::fullPage, x -> x.letter(0), Checks.OUTSIDE);
        Twins.refused("letter(127), page full", Scenes::crowded, x -> x.letter(127), Checks.OUTSIDE);
        Twins.refused("letter(1), page full", Scenes::fullPage, x -> x.letter(1), Checks.FULL);
    }

    private static void promise3Empty() {
        Checks.says("Promise 3", "THE PAGE is empty: how many letters it had");
        Checks.due("blank() of none", new OrdersInTurn().blank(), 0);
        OrdersInTurn x = new OrdersInTurn();
        x.letter('2');
        Checks.due("blank() of one", x.blank(), 1);
        x = Scenes.fullPage();
        Checks.due("blank() of 22", x.blank(), 22);
        Checks.due("letters then", x.count(6), 0);
        Checks.due("fault() then", x.fault(), 0);
        Checks.due("card() then", x.card(), Checks.STATE);
        Checks.due("blank() of none then", x.blank(), 0);
        x = Scenes.busy();
        x.blank();
        int[] stays = {3, 4, 3, 2, 16, 2, 0, 1, 1};
        for (int what = 0; what < 9; what++) {
            Checks.due("count(" + what + ") behind blank()", x.count(what), stays[what]);
        }
    }

    /** Every code at every place behind a good beginning, against the words of section 1 alone. */
    private static void promise4EveryLetterAtEveryPlace() {
        Checks.says("Promise 4", "the first letter of THE PAGE that no CARD has there, behind those ahead of it");
        for (int dishes = 2; dishes <= 6; dishes++) {
            String card = "99,11,99,11,99,11".substring(0, 3 * dishes - 1) + ";0";
            for (int place = 0; place <= card.length(); place++) {
                for (int code = 1; code <= 126; code++) {
                    String page = card.substring(0, place) + (char) code;
                    boolean good = place < card.length() && goodAt(place, dishes, (char) code);
                    faultIs(page, good ? place + 1 : place);
                }
            }
        }
    }

    private static boolean goodAt(int place, int dishes, char c) {
        int behindDishes = 3 * dishes - 1;
        if (place == behindDishes + 1) {
            return "0123456789".indexOf(c) >= 0;
        }
        if (place == 2) {
            return c == ',';
        }
        if (place == 17) {
            return c == ';';
        }
        if (place % 3 == 2) {
            return c == ',' || c == ';';
        }
        return "123456789".indexOf(c) >= 0;
    }

    private static void faultIs(String page, int place) {
        OrdersInTurn x = new OrdersInTurn();
        Checks.write(x, page);
        Checks.due("fault() of " + page, x.fault(), place);
    }

    private static void promise4Behind() {
        Checks.says("Promise 4", "how many letters it has, if there is none");
        for (int letters = 0; letters <= SIX.length(); letters++) {
            faultIs(SIX.substring(0, letters), letters);
        }
        faultIs(SIX + "9", 19);
        faultIs(SIX + "999", 19);
        Checks.says("Promise 4", "The place (from 0) of the first letter");
        faultIs("x", 0);
        faultIs("xx", 0);
        faultIs("1x", 1);
        faultIs("1x1;,", 1);
        faultIs("99,99,99,99,99,99,99;9", 17);
        Checks.due("fault() of 22 letters", Scenes.fullPage().fault(), 10);
        Checks.due("fault() with another card read", Scenes.busy().fault(), 4);
    }

    private static void cardIs(String page, int dishes) {
        OrdersInTurn x = new OrdersInTurn();
        Checks.write(x, page);
        Checks.due("card() of " + page, x.card(), dishes);
        Checks.due("dishes of " + page, x.count(0), dishes);
        Checks.due("THE PAGE behind card() of " + page, x.blank(), 0);
        Checks.due("cards read behind " + page, x.count(7), 1);
    }

    /** On a new page and where another card with all that goes with it could be lost. */
    private static void cardIsNone(String page) {
        Twins.refused("card() of " + page, () -> {
            OrdersInTurn x = new OrdersInTurn();
            Checks.write(x, page);
            return x;
        }, OrdersInTurn::card, Checks.STATE);
        Twins.refused("card() of " + page + " behind another", () -> {
            OrdersInTurn x = Scenes.busy();
            x.blank();
            Checks.write(x, page);
            return x;
        }, OrdersInTurn::card, Checks.STATE);
    }

    private static void promise5HowManyDishes() {
        Checks.says("Promise 5, section 1", "two to six DISHES (numbered from 0) with \",\" between");
        cardIsNone(";0");
        cardIsNone("11;0");
        cardIs("11,11;0", 2);
        cardIs("11,11,11;0", 3);
        cardIs("11,11,11,11,11;0", 5);
        cardIs("11,11,11,11,11,11;0", 6);
        cardIsNone("11,11,11,11,11,11,11;0");
        cardIsNone("1111;0");
        cardIsNone(",11,11;0");
        cardIsNone("11,11,;0");
        cardIsNone("11,,11;0");
        cardIsNone("1,1;0");
        cardIsNone("111,111;0");
    }

    private static void promise5Digits() {
        Checks.says("Promise 5, section 1", "how many are LEFT (1 to 9), the PRICE (1 to 9); then \";\" and a digit LOATH (0 to 9)");
        for (int digit = 1; digit <= 9; digit++) {
            OrdersInTurn x = Checks.withCard(digit + "1,1" + digit + ";" + digit);
            Checks.due("LEFT " + digit, x.dish(0, 0), digit);
            Checks.due("PRICE beside it", x.dish(0, 1), 1);
            Checks.due("PRICE " + digit, x.dish(1, 1), digit);
            Checks.due("LEFT beside it", x.dish(1, 0), 1);
            Checks.due("LOATH " + digit, x.count(1), digit);
        }
        Checks.due("LOATH 0", Checks.withCard("11,11;0").count(1), 0);
        for (char beside : new char[] {'0', ':', '/'}) {
            cardIsNone(beside + "1,11;0");
            cardIsNone("1" + beside + ",11;0");
            cardIsNone("11," + beside + "1;0");
            cardIsNone("11,1" + beside + ";0");
        }
        cardIsNone("11,11;/");
        cardIsNone("11,11;:");
    }

    private static void promise5ItIsNone() {
        Checks.says("Promise 5", "STATE: it is none");
        for (int letters = 0; letters < SIX.length(); letters++) {
            cardIsNone(SIX.substring(0, letters));
        }
        cardIs(SIX, 6);
        cardIsNone(SIX + "9");
        cardIsNone(SIX + "999");
        cardIsNone("11,11;");
        cardIsNone("11,11;00");
        cardIsNone("11,11;0;");
        cardIsNone("11,11;0,11;0");
        cardIsNone(" 11,11;0");
        cardIsNone("11,11;0 ");
    }

    private static void promise5AnotherOneIsGone() {
        Checks.says("Promise 5", "another one is gone, with GUESTS, EVENINGS; nothing is URGED");
        OrdersInTurn x = Scenes.crowded();
        x.blank();
        Checks.write(x, "98,97;5");
        Checks.due("card() of two behind six", x.card(), 2);
        int[] counts = {2, 5, 0, 0, 0, 0, 0, 2, 20};
        for (int what = 0; what < 9; what++) {
            Checks.due("count(" + what + ") behind card()", x.count(what), counts[what]);
        }
        int[] first = {9, 8, 0, 0};
        for (int what = 0; what < 4; what++) {
            Checks.due("dish(0, " + what + ")", x.dish(0, what), first[what]);
        }
        for (int d = 2; d < 6; d++) {
            Checks.due("dish " + d + " is gone", x.dish(d, 0), Checks.UNKNOWN);
        }
        for (int g = 0; g < 5; g++) {
            Checks.due("guest " + g + " is gone", x.about(g, 0), Checks.UNKNOWN);
        }
        Checks.due("every LOATH fits", x.fits(0), 1023);
        Checks.due("what was URGED", x.urge(0, 1), Checks.NONE);
        Checks.due("a guest again", x.guest(3, 9), 0);
        for (int d = 0; d < 2; d++) {
            Checks.due("who came wants nothing of " + d, x.want(0, d, 0), 0);
        }
        Checks.due("who came has nothing", x.about(0, 2), Checks.NONE);
        Checks.due("who came has not ordered", x.about(0, 3), 0);
    }

    private static void promise6UnknownDish() {
        Checks.says("Promise 6", "UNKNOWN");
        int[] unknown = {-1, 3, 6, -2, Integer.MIN_VALUE, Integer.MAX_VALUE};
        for (int d : unknown) {
            Twins.refused("dish(" + d + ", 0) of three", Scenes::busy, x -> x.dish(d, 0), Checks.UNKNOWN);
        }
        Twins.refused("dish(6, 0) of six", Scenes::crowded, x -> x.dish(6, 0), Checks.UNKNOWN);
        Twins.refused("dish(-1, 0) of six", Scenes::crowded, x -> x.dish(-1, 0), Checks.UNKNOWN);
        Twins.refused("dish(0, 0), no card", Scenes::noCard, x -> x.dish(0, 0), Checks.UNKNOWN);
        Checks.due("dish(0, 1) of six", Scenes.crowded().dish(0, 1), 1);
        Checks.due("dish(5, 1) of six", Scenes.crowded().dish(5, 1), 6);
        Checks.due("dish(2, 1) of three", Scenes.busy().dish(2, 1), 3);
        OrdersInTurn two = Checks.withCard("98,97;5");
        Checks.due("dish(1, 1) of two", two.dish(1, 1), 7);
        Checks.due("dish(2, 1) of two", two.dish(2, 1), Checks.UNKNOWN);
    }

    private static void promise6OutsideWhat() {
        Checks.says("Promise 6", "what = 0 .. 3; OUTSIDE");
        int[] outside = {-1, 4, Integer.MIN_VALUE, Integer.MAX_VALUE};
        for (int what : outside) {
            Twins.refused("dish(0, " + what + ")", Scenes::busy, x -> x.dish(0, what), Checks.OUTSIDE);
        }
        int[] inside = {1, 4, 1, 6};
        for (int what = 0; what < 4; what++) {
            Checks.due("dish(1, " + what + ")", Scenes.busy().dish(1, what), inside[what]);
        }
    }

    private static void promise6UnknownAheadOfOutside() {
        Checks.says("Promise 6", "UNKNOWN; OUTSIDE");
        Twins.refused("dish(-1, -1)", Scenes::busy, x -> x.dish(-1, -1), Checks.UNKNOWN);
        Twins.refused("dish(3, 4)", Scenes::busy, x -> x.dish(3, 4), Checks.UNKNOWN);
        Twins.refused("dish(0, 4), no card", Scenes::noCard, x -> x.dish(0, 4), Checks.UNKNOWN);
    }

    private static void promise6NumbersAtTheirEnds() {
        Checks.says("Promise 6", "how many are LEFT now, .. how many have it, 3 URGE (0: it is not URGED)");
        OrdersInTurn x = Checks.withCard("51,91;0");
        for (int g = 0; g < 5; g++) {
            Checks.due("LEFT ahead of " + g, x.dish(0, 0), 5 - g);
            Checks.due("who have it ahead of " + g, x.dish(0, 2), g);
            x.guest(0, 9);
            x.order(g);
        }
        Checks.due("none LEFT", x.dish(0, 0), 0);
        Checks.due("all have it", x.dish(0, 2), 5);
        Checks.due("URGE of what is not URGED", x.dish(0, 3), 0);
        x.urge(0, 1);
        Checks.due("URGE 1", x.dish(0, 3), 1);
        x.urge(0, 20);
        Checks.due("URGE 20", x.dish(0, 3), 20);
        Checks.due("URGE of the other", x.dish(1, 3), 0);
        x.urge(1, 0);
        Checks.due("URGE 0", x.dish(0, 3), 0);
    }
}
