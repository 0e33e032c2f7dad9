/** Promises 27 to 30: the image, the counts and the digest. */
public final class AllTest {
    public static void main(String[] args) {
        image();
        imageOfEvenings();
        imageRefused();
        counts();
        digest();
        Checks.close("AllTest");
    }

    private static void image() {
        OrdersInTurn x = Checks.threeGuests();
        Checks.due("restore() without an image", x.restore(), Checks.STATE);
        x.order(1);
        x.urge(1, 4);
        x.evening(0, 1, 1);
        Checks.due("image()", x.image(), 1);
        long before = x.digest();
        change(x);
        Checks.due("restore()", x.restore(), 1);
        Checks.due("all is as it was", x.digest(), before);
        change(x);
        Checks.due("restore() again", x.restore(), 1);
        Checks.due("all is as it was, again", x.digest(), before);
        Checks.due("urged as it was", x.urge(1, 4), 1);
        x.order(0);
        Checks.due("a later image", x.image(), 2);
        x.clear();
        Checks.due("the latest counts", x.restore(), 2);
    }

    private static void change(OrdersInTurn x) {
        x.clear();
        x.order(2);
        x.order(0);
        x.want(2, 1, 9);
        x.want(0, 0, 3);
        x.purse(0, 2);
        x.purse(1, 1);
        x.purse(2, 3);
        x.urge(0, 3);
        x.forget();
        x.evening(1, 1, 0);
        x.evening(2, 1, 0);
    }

    private static void imageOfEvenings() {
        OrdersInTurn x = Checks.threeGuests();
        x.evening(0, 1, 1);
        x.evening(1, 2, 0);
        Checks.due("LOATH 3 to 7", x.fits(0), 248);
        x.image();
        x.forget();
        x.evening(2, 2, 1);
        x.evening(2, 1, 1);
        x.evening(2, 2, 1);
        Checks.due("no LOATH", x.fits(0), 0);
        Checks.due("restore() of evenings", x.restore(), 0);
        Checks.due("two of them", x.count(5), 2);
        Checks.due("LOATH 3 to 7 again", x.fits(0), 248);
    }

    private static void imageRefused() {
        OrdersInTurn x = new OrdersInTurn();
        Checks.due("no card: image()", x.image(), Checks.STATE);
        Checks.due("no card: restore()", x.restore(), Checks.STATE);
        Checks.write(x, "21,21;3");
        x.card();
        Checks.due("new card: restore()", x.restore(), Checks.STATE);
        Checks.due("image() without guests", x.image(), 0);
        Checks.due("restore() without guests", x.restore(), 0);
        x.guest(0, 9);
        Checks.due("a guest came", x.restore(), Checks.STATE);
        Checks.due("image() with him", x.image(), 0);
        x.guest(9, 9);
        Checks.due("a guest refused", x.restore(), 0);
        x.order(0);
        Checks.write(x, "21,21;");
        x.card();
        Checks.due("a card refused", x.restore(), 0);
        x.letter('3');
        x.card();
        x.guest(0, 9);
        Checks.due("the same card, read again", x.restore(), Checks.STATE);
        x.letter('1');
        x.image();
        x.letter('2');
        Checks.due("letters came", x.restore(), 0);
        Checks.due("the page is none of the image", x.count(6), 2);
    }

    private static void counts() {
        OrdersInTurn x = Checks.threeGuests();
        x.order(0);
        x.order(1);
        x.evening(0, 0, 0);
        x.evening(0, 0, 0);
        x.evening(0, 0, 0);
        Checks.write(x, "1234567");
        x.atOnce(0);
        int[] due = {2, 3, 3, 2, 16, 3, 7, 1, 1};
        for (int what = 0; what < due.length; what++) {
            Checks.due("count(" + what + ")", x.count(what), due[what]);
        }
        Checks.due("count(9)", x.count(9), Checks.OUTSIDE);
        Checks.due("count(-1)", x.count(-1), Checks.OUTSIDE);
        Checks.due("count(min)", x.count(Integer.MIN_VALUE), Checks.OUTSIDE);
    }

    private static void digest() {
        OrdersInTurn x = Checks.withCard("21,14;3");
        x.letter('7');
        x.urge(1, 5);
        long[] noGuests = {2, 1, 0, 0, 1, 4, 0, 5, 0, 0, 0, 1023, '7', 2, 3, 0, 0, 0, 0, 1, 1, 0};
        Checks.due("digest() without guests", x.digest(), folded(noGuests));
        Checks.sit(x, 2, 3, "69");
        long[] oneGuest = {
            2, 1, 0, 0, 1, 4, 0, 5,
            2, 3, -1, 0, -6, 0, 6, 9, 1,
            6, 1, 1, 1023,
            0, 6,
            '7', 2, 3, 1, 0, 0, 0, 1, 1, 0};
        Checks.due("digest() with one guest", x.digest(), folded(oneGuest));
        x.order(0);
        Checks.sit(x, 4, 4, "05");
        x.evening(1, 1, 1);
        x.evening(0, 1, 0);
        long[] all = {
            1, 1, 1, 0, 1, 4, 0, 5,
            2, 3, 0, 1, -6, 6, 6, 9, 1,
            4, 4, -1, 0, 6, 0, 0, 5, 1,
            11, 1, 2, 32 + 64 + 128 + 256 + 512,
            0, 11,
            '7', 2, 3, 2, 1, 6, 2, 1, 1, 0};
        Checks.due("digest()", x.digest(), folded(all));
    }

    private static long folded(long[] numbers) {
        long h = 757;
        for (long number : numbers) {
            h = 31 * h + number;
        }
        return h;
    }
}
