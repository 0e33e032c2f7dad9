/** Tables laid for the tests of bounds; each call lays a new one, always alike. */
final class Scenes {
    private Scenes() {
    }

    static OrdersInTurn noCard() {
        OrdersInTurn x = new OrdersInTurn();
        Checks.write(x, "21,3");
        return x;
    }

    /** A page of 22 letters, no card. */
    static OrdersInTurn fullPage() {
        OrdersInTurn x = new OrdersInTurn();
        Checks.write(x, "21,34,56;7890123456789");
        return x;
    }

    /** Three dishes, nobody there; something is urged, kept in an image, and on the page. */
    static OrdersInTurn noGuests() {
        OrdersInTurn x = Checks.withCard("32,24,13;4");
        x.urge(2, 9);
        x.image();
        x.urge(1, 6);
        Checks.write(x, "21,1");
        return x;
    }

    /** Three dishes, three guests; 0 and 2 have ordered; an image from before, evenings, an urge, a page. */
    static OrdersInTurn busy() {
        OrdersInTurn x = Checks.withCard("32,24,13;4");
        Checks.sit(x, 0, 5, "752");
        Checks.sit(x, 2, 3, "816");
        Checks.sit(x, 4, 9, "098");
        x.order(0);
        x.evening(0, 1, 0);
        x.image();
        x.order(2);
        x.urge(1, 6);
        x.want(1, 2, 9);
        x.purse(1, 4);
        x.evening(2, 2, 1);
        x.atOnce(0);
        Checks.write(x, "21,1");
        return x;
    }

    /** Nothing more goes in: six dishes, five guests, four evenings, 22 letters, atOnce done 20 times. */
    static OrdersInTurn crowded() {
        OrdersInTurn x = Checks.withCard("11,22,33,14,25,36;2");
        String[] wants = {"951470", "195147", "719514", "471951", "147195"};
        for (int g = 0; g < 5; g++) {
            Checks.sit(x, g, 9 - g, wants[g]);
        }
        for (int e = 0; e < 4; e++) {
            x.evening(e, e + 1, x.inTurn(e, e + 1));
        }
        x.image();
        x.urge(5, 20);
        x.order(4);
        for (int i = 0; i < 20; i++) {
            x.atOnce(i % 2);
        }
        Checks.write(x, "11,11,11,11,11,11;3123");
        return x;
    }
}
