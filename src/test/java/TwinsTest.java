/** That twins do see a change: each call that changes something, made on one of them, must show. */
public final class TwinsTest {
    public static void main(String[] args) {
        Checks.isTrue("no call shows nothing", !Twins.differ(Scenes::busy, x -> 0));
        Checks.isTrue("letter shows", Twins.differ(Scenes::busy, x -> x.letter('2')));
        Checks.isTrue("a letter that is a fault shows", Twins.differ(Scenes::busy, x -> x.letter('x')));
        Checks.isTrue("blank shows", Twins.differ(Scenes::busy, OrdersInTurn::blank));
        Checks.isTrue("guest shows", Twins.differ(Scenes::busy, x -> x.guest(1, 1)));
        Checks.isTrue("want shows", Twins.differ(Scenes::busy, x -> x.want(0, 1, 4)));
        Checks.isTrue("purse shows", Twins.differ(Scenes::busy, x -> x.purse(2, 8)));
        Checks.isTrue("urge shows", Twins.differ(Scenes::busy, x -> x.urge(1, 7)));
        Checks.isTrue("urge of another shows", Twins.differ(Scenes::busy, x -> x.urge(2, 6)));
        Checks.isTrue("urge of none shows", Twins.differ(Scenes::busy, x -> x.urge(1, 0)));
        Checks.isTrue("order shows", Twins.differ(Scenes::busy, x -> x.order(1)));
        Checks.isTrue("clear shows", Twins.differ(Scenes::busy, OrdersInTurn::clear));
        Checks.isTrue("atOnce shows", Twins.differ(Scenes::busy, x -> x.atOnce(1)));
        Checks.isTrue("evening shows", Twins.differ(Scenes::busy, x -> x.evening(0, 0, 2)));
        Checks.isTrue("forget shows", Twins.differ(Scenes::busy, OrdersInTurn::forget));
        Checks.isTrue("image shows", Twins.differ(Scenes::busy, OrdersInTurn::image));
        Checks.isTrue("restore shows", Twins.differ(Scenes::busy, OrdersInTurn::restore));
        Checks.isTrue("image without guests shows", Twins.differ(Scenes::noGuests, OrdersInTurn::image));
        Checks.isTrue("card shows", Twins.differ(TwinsTest::wholePage, OrdersInTurn::card));
        Checks.close("TwinsTest");
    }

    private static OrdersInTurn wholePage() {
        OrdersInTurn x = Scenes.busy();
        Checks.write(x, "1;0");
        return x;
    }
}
