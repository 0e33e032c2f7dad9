import java.util.function.Supplier;

/** Promises 27 to 30, sentence by sentence, and how many calls an object is used for. */
public final class AllBoundsTest {
    public static void main(String[] args) {
        promise27NoCard();
        promise27HowManyOrdered();
        promise27TheLatest();
        promise28NoneWasKept();
        promise28AnotherCard();
        promise28GuestsCame();
        promise28RefusedSince();
        promise28WhatIsKept();
        promise28EveningsToldAnew();
        promise28WhatIsNot();
        promise29Outside();
        promise29AtTheirEnds();
        promise30();
        fiveHundredAndTwelveCalls();
        Checks.close("AllBoundsTest");
    }

    private static void promise27NoCard() {
        Checks.says("Promise 27", "STATE: no CARD");
        Twins.refused("image()", Scenes::noCard, OrdersInTurn::image, Checks.STATE);
        Twins.refused("image(), all new", OrdersInTurn::new, OrdersInTurn::image, Checks.STATE);
        OrdersInTurn x = Checks.withCard("11,11;0");
        Checks.due("image() with a card", x.image(), 0);
        Checks.due("restore() of it", x.restore(), 0);
    }

    private static void promise27HowManyOrdered() {
        Checks.says("Promise 27", "how many ORDERED");
        OrdersInTurn x = Scenes.crowded();
        x.clear();
        for (int g = 0; g < 5; g++) {
            Checks.due("image() with " + g, x.image(), g);
            x.order(g);
            Checks.due("restore() to " + g, x.restore(), g);
            x.order(g);
        }
        Checks.due("image() with 5", x.image(), 5);
        x.clear();
        Checks.due("restore() to 5", x.restore(), 5);
    }

    private static void promise27TheLatest() {
        Checks.says("Promise 27", "An IMAGE is kept (one; the latest)");
        OrdersInTurn x = Checks.threeGuests();
        x.image();
        x.order(0);
        x.order(1);
        x.image();
        x.clear();
        Checks.due("the latest, of more", x.restore(), 2);
        x.clear();
        x.image();
        x.order(0);
        Checks.due("the latest, of fewer", x.restore(), 0);
        Checks.due("nobody ORDERED", x.count(3), 0);
        Checks.due("the same again", x.restore(), 0);
    }

    private static void promise28NoneWasKept() {
        Checks.says("Promise 28", "STATE: none was kept");
        Twins.refused("restore(), all new", OrdersInTurn::new, OrdersInTurn::restore, Checks.STATE);
        Twins.refused("restore(), no card", Scenes::noCard, OrdersInTurn::restore, Checks.STATE);
        Twins.refused("restore(), a card", () -> Checks.withCard("11,11;0"), OrdersInTurn::restore, Checks.STATE);
        Twins.refused("restore(), guests", () -> {
            OrdersInTurn x = Checks.threeGuests();
            x.order(1);
            x.urge(1, 3);
            return x;
        }, OrdersInTurn::restore, Checks.STATE);
        Twins.refused("restore() behind a refused image()", () -> {
            OrdersInTurn x = new OrdersInTurn();
            x.image();
            Checks.write(x, "11,11;0");
            x.card();
            return x;
        }, OrdersInTurn::restore, Checks.STATE);
    }

    /** The image is of a card with as many guests as there are behind the next one. */
    private static OrdersInTurn anotherCard(String text) {
        OrdersInTurn x = Scenes.busy();
        x.blank();
        Checks.write(x, text);
        x.card();
        Checks.sit(x, 0, 5, "752");
        Checks.sit(x, 2, 3, "816");
        Checks.sit(x, 4, 9, "098");
        x.order(1);
        return x;
    }

    private static void promise28AnotherCard() {
        Checks.says("Promise 28", "STATE: .. or there is another CARD .. since");
        Twins.refused("restore()", () -> anotherCard("21,21,21;3"), OrdersInTurn::restore, Checks.STATE);
        Twins.refused("restore(), the same text", () -> anotherCard("32,24,13;4"), OrdersInTurn::restore, Checks.STATE);
        Twins.refused("restore(), none there before nor now", () -> {
            OrdersInTurn x = Scenes.noGuests();
            Checks.write(x, "1;0");
            x.card();
            return x;
        }, OrdersInTurn::restore, Checks.STATE);
        OrdersInTurn x = anotherCard("21,21,21;3");
        Checks.due("image() of this one", x.image(), 1);
        Checks.due("restore() of this one", x.restore(), 1);
    }

    private static void promise28GuestsCame() {
        Checks.says("Promise 28", "STATE: .. or GUESTS came, since");
        Supplier<OrdersInTurn> oneMore = () -> {
            OrdersInTurn x = Scenes.busy();
            x.guest(1, 1);
            return x;
        };
        Twins.refused("restore(), one more", oneMore, OrdersInTurn::restore, Checks.STATE);
        Twins.refused("restore(), the first one", () -> {
            OrdersInTurn x = Scenes.noGuests();
            x.guest(0, 9);
            return x;
        }, OrdersInTurn::restore, Checks.STATE);
        OrdersInTurn x = oneMore.get();
        Checks.due("image() with him", x.image(), 2);
        Checks.due("restore() with him", x.restore(), 2);
    }

    private static void promise28RefusedSince() {
        Checks.says("Promise 28, section 3", "Refusals .. change nothing (a refused card or guest is not one since)");
        OrdersInTurn x = Scenes.busy();
        Checks.due("guest(5, 1)", x.guest(5, 1), Checks.OUTSIDE);
        Checks.due("card() of half a page", x.card(), Checks.STATE);
        Checks.due("restore() behind both", x.restore(), 1);
        x = Scenes.crowded();
        Checks.due("a sixth guest", x.guest(0, 1), Checks.FULL);
        Checks.due("card() of a page too long", x.card(), Checks.STATE);
        Checks.due("restore() behind both", x.restore(), 0);
    }

    private static void promise28WhatIsKept() {
        Checks.says("Promise 28, section 3", "An IMAGE keeps WANTS, PURSES, what is ORDERED, URGED, EVENINGS");
        OrdersInTurn x = Scenes.crowded();
        Checks.due("restore()", x.restore(), 0);
        Checks.due("nothing was URGED", x.urge(0, 0), Checks.NONE);
        x.order(0);
        x.urge(5, 20);
        x.image();
        long before = x.digest();
        for (int g = 0; g < 5; g++) {
            for (int d = 0; d < 6; d++) {
                x.want(g, d, 9 - d);
            }
            x.purse(g, 1 + g);
            x.order(g);
        }
        x.urge(0, 1);
        x.forget();
        Checks.due("restore() of all", x.restore(), 1);
        Checks.due("digest() of all", x.digest(), before);
        String[] wants = {"951470", "195147", "719514", "471951", "147195"};
        for (int g = 0; g < 5; g++) {
            for (int d = 0; d < 6; d++) {
                Checks.due("want of dish " + d + " by " + g, x.want(g, d, 0), wants[g].charAt(d) - '0');
            }
            Checks.due("purse of " + g, x.about(g, 1), 9 - g);
            Checks.due("whether " + g + " ORDERED", x.about(g, 3), g == 0 ? 1 : 0);
        }
        Checks.due("what is URGED", x.urge(0, 0), 5);
        Checks.due("EVENINGS", x.forget(), 4);
        Checks.due("restore() once more", x.restore(), 1);
        Checks.due("digest() once more", x.digest(), before);
    }

    private static void promise28EveningsToldAnew() {
        Checks.says("Promise 28, section 3", "An IMAGE keeps .. EVENINGS");
        OrdersInTurn x = Checks.threeGuests();
        x.evening(0, 1, 1);
        x.evening(1, 2, 0);
        Checks.due("LOATH 3 to 7", x.fits(0), 248);
        x.image();
        x.forget();
        x.evening(2, 1, 0);
        x.evening(2, 2, 0);
        x.evening(2, 0, Checks.NONE);
        Checks.due("no LOATH", x.fits(0), 0);
        x.restore();
        Checks.due("two of them", x.count(5), 2);
        Checks.due("LOATH 3 to 7 again", x.fits(0), 248);
        Checks.due("a third one", x.evening(0, 0, 0), 3);
        x.restore();
        x.forget();
        x.evening(0, 1, 1);
        x.image();
        x.forget();
        x.evening(1, 1, 1);
        Checks.due("another first one: no LOATH", x.fits(0), 0);
        x.restore();
        Checks.due("the first one again: 3 or more", x.fits(0), 1016);
        x.forget();
        x.evening(0, 0, 1);
        Checks.due("another guest: no LOATH", x.fits(0), 0);
        x.restore();
        Checks.due("the guest again: 3 or more", x.fits(0), 1016);
        x.forget();
        x.evening(0, 1, 0);
        Checks.due("another dish: 0 to 2", x.fits(0), 7);
        x.restore();
        Checks.due("the dish again: 3 or more", x.fits(0), 1016);
    }

    private static void promise28WhatIsNot() {
        Checks.says("Promise 28, section 3", "(nor the page, nor how often atOnce() was done)");
        OrdersInTurn x = Checks.threeGuests();
        x.letter('1');
        x.atOnce(0);
        x.image();
        x.letter('2');
        for (int i = 1; i < 20; i++) {
            x.atOnce(0);
        }
        x.restore();
        Checks.due("letters", x.count(6), 2);
        Checks.due("cards read", x.count(7), 1);
        Checks.due("atOnce() done", x.count(8), 20);
        Checks.due("atOnce(0), time 21", x.atOnce(0), Checks.STATE);
    }

    private static void promise29Outside() {
        Checks.says("Promise 29", "How many: 0 .. 8; OUTSIDE");
        int[] outside = {-1, 9, Integer.MIN_VALUE, Integer.MAX_VALUE};
        for (int what : outside) {
            Twins.refused("count(" + what + ")", Scenes::busy, x -> x.count(what), Checks.OUTSIDE);
            Twins.refused("count(" + what + "), no card", Scenes::noCard, x -> x.count(what), Checks.OUTSIDE);
        }
        int[] inside = {3, 4, 3, 2, 16, 2, 4, 1, 1};
        for (int what = 0; what < 9; what++) {
            Checks.due("count(" + what + ")", Scenes.busy().count(what), inside[what]);
        }
    }

    private static void promise29AtTheirEnds() {
        Checks.says("Promise 29", "0 DISHES, 1 LOATH (0: no CARD), .. 8 how often atOnce() was done");
        for (int what = 0; what < 9; what++) {
            Checks.due("count(" + what + "), all new", new OrdersInTurn().count(what), 0);
            Checks.due("count(" + what + "), no card", Scenes.noCard().count(what), what == 6 ? 4 : 0);
        }
        Checks.due("LOATH 9", Checks.withCard("11,11;9").count(1), 9);
        OrdersInTurn x = Scenes.crowded();
        for (int g = 0; g < 4; g++) {
            x.order(g);
        }
        int[] most = {6, 2, 5, 5, -1, 4, 22, 1, 20};
        for (int what = 0; what < 9; what++) {
            if (what != 4) {
                Checks.due("count(" + what + "), all full", x.count(what), most[what]);
            }
        }
        x = Checks.withCard("91,91;0");
        for (int g = 0; g < 5; g++) {
            Checks.sit(x, 0, 1, "09");
            x.order(g);
            Checks.due("JOY of " + (g + 1), x.count(4), 9 * (g + 1));
        }
        for (int i = 2; i <= 20; i++) {
            Checks.write(x, "11,11;0");
            x.card();
            Checks.due("cards read", x.count(7), i);
        }
    }

    private static void promise30() {
        Checks.says("Promise 30", "h is 757, then for each of these numbers, in order, 31 times h, and it (as longs, wrapping)");
        digestIs("all new", OrdersInTurn::new, "");
        digestIs("no card", Scenes::noCard, "21,3");
        digestIs("a full page", Scenes::fullPage, "21,34,56;7890123456789");
        digestIs("no guests", Scenes::noGuests, "21,1");
        digestIs("one guest", () -> {
            OrdersInTurn x = Scenes.noGuests();
            Checks.sit(x, 3, 4, "719");
            return x;
        }, "21,1");
        digestIs("three guests", Scenes::busy, "21,1");
        digestIs("all full", Scenes::crowded, "11,11,11,11,11,11;3123");
        digestIs("codes 1 and 126", () -> {
            OrdersInTurn x = new OrdersInTurn();
            x.letter(1);
            x.letter(126);
            return x;
        }, "" + (char) 1 + (char) 126);
    }

    private static void digestIs(String what, Supplier<OrdersInTurn> laid, String page) {
        Checks.due("digest(), " + what, laid.get().digest(), foldedByOthers(laid.get(), page));
    }

    /** The digest by what the other calls answer. */
    private static long foldedByOthers(OrdersInTurn x, String page) {
        long h = 757;
        int dishes = x.count(0);
        int guests = x.count(2);
        for (int d = 0; d < dishes; d++) {
            for (int what = 0; what <= 3; what++) {
                h = 31 * h + x.dish(d, what);
            }
        }
        for (int g = 0; g < guests; g++) {
            for (int what = 0; what <= 5; what++) {
                h = 31 * h + x.about(g, what);
            }
            for (int d = 0; d < dishes; d++) {
                h = 31 * h + wanted(x, g, d);
            }
            h = 31 * h + x.minds(g);
        }
        if (dishes > 0) {
            h = 31 * h + x.host();
            h = 31 * h + x.fewest(0);
            h = 31 * h + x.fewest(1);
            h = 31 * h + x.fits(0);
        }
        if (guests > 0) {
            h = 31 * h + x.begin(Checks.NONE, 0);
            h = 31 * h + x.begin(Checks.NONE, 1);
        }
        for (int i = 0; i < page.length(); i++) {
            h = 31 * h + page.charAt(i);
        }
        for (int what = 0; what <= 8; what++) {
            h = 31 * h + x.count(what);
        }
        return h;
    }

    private static int wanted(OrdersInTurn x, int guest, int dish) {
        int v = x.want(guest, dish, 0);
        x.want(guest, dish, v);
        return v;
    }

    private static void fiveHundredAndTwelveCalls() {
        Checks.says("What it is", "An object is used for at most 512 calls after it has been made");
        OrdersInTurn x = Checks.threeGuests();
        // 8 calls for the card, 9 for three guests with two wants each
        for (int made = 17; made < 509; made += 2) {
            Checks.due("order(0), call " + (made + 1), x.order(0), 0);
            Checks.due("clear(), call " + (made + 2), x.clear(), 1);
        }
        Checks.due("order(0), call 510", x.order(0), 0);
        Checks.due("clear(), call 511", x.clear(), 1);
        Checks.due("digest(), call 512", x.digest(), Checks.threeGuests().digest());
    }
}
