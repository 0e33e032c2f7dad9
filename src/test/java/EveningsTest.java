/** Promises 23 to 26: evenings told, and evenings by a seed. */
public final class EveningsTest {
    public static void main(String[] args) {
        evening();
        forget();
        fits();
        sure();
        bySeed();
        Checks.close("EveningsTest");
    }

    private static void evening() {
        OrdersInTurn x = Checks.threeGuests();
        Checks.due("evening(3, 0, 0)", x.evening(3, 0, 0), Checks.UNKNOWN);
        Checks.due("evening(-1, 0, 0)", x.evening(-1, 0, 0), Checks.UNKNOWN);
        Checks.due("evening(0, 3, 0)", x.evening(0, 3, 0), Checks.UNKNOWN);
        Checks.due("evening(0, -1, 0)", x.evening(0, -1, 0), Checks.UNKNOWN);
        Checks.due("evening(0, 0, 2)", x.evening(0, 0, 2), Checks.UNKNOWN);
        Checks.due("evening(0, 0, -2)", x.evening(0, 0, -2), Checks.UNKNOWN);
        Checks.due("none told", x.count(5), 0);
        for (int i = 1; i <= 4; i++) {
            Checks.due("evening " + i, x.evening(0, i % 3, i % 2 == 0 ? Checks.NONE : 1), i);
        }
        Checks.due("a fifth one", x.evening(0, 0, 0), Checks.FULL);
        Checks.due("a fifth one, unknown", x.evening(0, 0, 2), Checks.UNKNOWN);
        Checks.due("count(5)", x.count(5), 4);
    }

    private static void forget() {
        OrdersInTurn x = Checks.threeGuests();
        x.evening(0, 1, 0);
        x.evening(0, 1, 1);
        Checks.due("no LOATH for both", x.fits(0), 0);
        Checks.due("forget()", x.forget(), 2);
        Checks.due("forget() again", x.forget(), 0);
        Checks.due("every LOATH then", x.fits(0), 1023);
        Checks.due("count(5)", x.count(5), 0);
    }

    private static void fits() {
        OrdersInTurn x = new OrdersInTurn();
        Checks.due("no card: fits(0)", x.fits(0), Checks.STATE);
        Checks.due("no card: fits(2)", x.fits(2), Checks.OUTSIDE);
        x = Checks.threeGuests();
        Checks.due("nothing told", x.fits(0), 1023);
        Checks.due("nothing told: not sure", x.fits(1), Checks.NONE);
        x.evening(0, 1, 1);
        Checks.due("3 or more", x.fits(0), 1016);
        x.evening(1, 2, 0);
        Checks.due("3 to 7", x.fits(0), 248);
        Checks.due("3 to 7: not sure", x.fits(1), Checks.NONE);
        x.order(1);
        Checks.due("whatever is ordered", x.fits(0), 248);
        // urged by 2, the second one takes 1 from LOATH 1 on; the third one 0 up to LOATH 5
        x.urge(1, 2);
        Checks.due("with what is urged", x.fits(0), 62);
        Checks.due("LOATH stays", x.count(1), 3);
        Checks.due("fits(2)", x.fits(2), Checks.OUTSIDE);
        Checks.due("fits(-1)", x.fits(-1), Checks.OUTSIDE);
        x = Checks.withCard("11,12;0");
        Checks.sit(x, 0, 1, "00");
        Checks.sit(x, 0, 1, "00");
        x.evening(0, 1, Checks.NONE);
        Checks.due("he had none", x.fits(0), 1023);
        x.evening(1, 1, Checks.NONE);
        Checks.due("he would have had one", x.fits(0), 0);
    }

    private static void sure() {
        OrdersInTurn x = Checks.threeGuests();
        x.want(1, 1, 3);
        x.evening(0, 1, 1);
        x.evening(1, 2, 0);
        Checks.due("only 7", x.fits(0), 128);
        Checks.due("sure of 7", x.fits(1), 7);
        x.forget();
        x.want(1, 1, 8);
        x.evening(0, 1, 0);
        Checks.due("0 and 1", x.fits(0), 3);
        x.want(1, 1, 9);
        Checks.due("only 0", x.fits(0), 1);
        Checks.due("sure of 0", x.fits(1), 0);
        x.evening(0, 1, 1);
        Checks.due("none: not sure", x.fits(1), Checks.NONE);
    }

    private static void bySeed() {
        OrdersInTurn x = Checks.threeGuests();
        x.order(1);
        // drawn are: from 0 on, dish 0 of guest 1 becomes 7; then from 0 on, dish 1 of guest 1 becomes 1
        Checks.due("evenings(1, 0, 0)", x.evenings(1, 0, 0), 24);
        Checks.due("evenings(1, 0, 1)", x.evenings(1, 0, 1), 1449466924);
        Checks.due("evenings(2, 0, 0)", x.evenings(2, 0, 0), 41);
        Checks.due("evenings(2, 0, 1)", x.evenings(2, 0, 1), 1293799192);
        Checks.due("evenings(1, 1, 0)", x.evenings(1, 1, 0), 22);
        Checks.due("evenings(1, 1, 1)", x.evenings(1, 1, 1), 1147902781);
        Checks.due("evenings(1, max, 0)", x.evenings(1, Integer.MAX_VALUE, 0), 25);
        Checks.due("evenings(1, max, 1)", x.evenings(1, Integer.MAX_VALUE, 1), 1751031067);
        Checks.isTrue("evenings(60, 5, 0) is answered", x.evenings(60, 5, 0) > 0);
        Checks.due("wants stay", x.want(1, 0, 9), 9);
        Checks.due("what is ordered stays", x.count(3), 1);
        Checks.due("evenings(0, 0, 0)", x.evenings(0, 0, 0), Checks.OUTSIDE);
        Checks.due("evenings(61, 0, 0)", x.evenings(61, 0, 0), Checks.OUTSIDE);
        Checks.due("evenings(1, -1, 0)", x.evenings(1, -1, 0), Checks.OUTSIDE);
        Checks.due("evenings(1, 0, 2)", x.evenings(1, 0, 2), Checks.OUTSIDE);
        Checks.due("evenings(1, 0, -1)", x.evenings(1, 0, -1), Checks.OUTSIDE);
        x = Checks.withCard("11,12;0");
        Checks.due("no guests: evenings(1, 0, 0)", x.evenings(1, 0, 0), Checks.STATE);
        Checks.due("no guests: evenings(0, 0, 0)", x.evenings(0, 0, 0), Checks.OUTSIDE);
        Checks.due("no card: evenings(1, 0, 0)", new OrdersInTurn().evenings(1, 0, 0), Checks.STATE);
    }
}
