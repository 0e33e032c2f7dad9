/** Promises 23 to 26, sentence by sentence: just inside and just outside of each bound. */
public final class EveningsBoundsTest {
    private static final int MIN = Integer.MIN_VALUE;
    private static final int MAX = Integer.MAX_VALUE;
    private static final int[] NOT_OF_THREE = {-1, 3, -2, 5, MIN, MAX};
    private static final int[] NOT_OF_TWO = {-1, 2, MIN, MAX};

    public static void main(String[] args) {
        promise23Unknown();
        promise23NoneIsGood();
        promise23Full();
        promise23UnknownAheadOfFull();
        promise24();
        promise25What();
        promise25Bits();
        promise25Sure();
        promise26Times();
        promise26Seed();
        promise26What();
        promise26NoGuests();
        promise26FirstAsTold();
        promise26AsTheyWouldBe();
        promise26Draws();
        Checks.close("EveningsBoundsTest");
    }

    private static void promise23Unknown() {
        Checks.says("Promise 23", "UNKNOWN: first, guest, dish");
        for (int n : NOT_OF_THREE) {
            Twins.refused("evening(" + n + ", 0, 0)", Scenes::busy, x -> x.evening(n, 0, 0), Checks.UNKNOWN);
            Twins.refused("evening(0, " + n + ", 0)", Scenes::busy, x -> x.evening(0, n, 0), Checks.UNKNOWN);
            if (n != Checks.NONE) {
                Twins.refused("evening(0, 0, " + n + ")", Scenes::busy, x -> x.evening(0, 0, n), Checks.UNKNOWN);
            }
        }
        Twins.refused("evening(0, 0, 0) of none", Scenes::noGuests, x -> x.evening(0, 0, 0), Checks.UNKNOWN);
        Twins.refused("evening(0, 0, -1), no card", Scenes::noCard, x -> x.evening(0, 0, -1), Checks.UNKNOWN);
        Checks.due("evening(0, 0, 0)", Scenes.busy().evening(0, 0, 0), 3);
        Checks.due("evening(2, 2, 2)", Scenes.busy().evening(2, 2, 2), 3);
        OrdersInTurn x = Scenes.crowded();
        x.forget();
        Checks.due("evening(5, 0, 0) of five", x.evening(5, 0, 0), Checks.UNKNOWN);
        Checks.due("evening(0, 5, 0) of five", x.evening(0, 5, 0), Checks.UNKNOWN);
        Checks.due("evening(0, 0, 6) of six", x.evening(0, 0, 6), Checks.UNKNOWN);
        Checks.due("none of these is there", x.count(5), 0);
        Checks.due("evening(4, 4, 5)", x.evening(4, 4, 5), 1);
    }

    private static void promise23NoneIsGood() {
        Checks.says("Promise 23", "NONE is good");
        OrdersInTurn x = Checks.withCard("11,19;0");
        x.guest(0, 8);
        x.guest(0, 8);
        Checks.due("evening(0, 1, -1)", x.evening(0, 1, Checks.NONE), 1);
        Checks.due("it fits always: 1 has none from 0 on", x.fits(0), 1023);
        Checks.due("evening(1, 1, -1)", x.evening(1, 1, Checks.NONE), 2);
        Checks.due("it never fits: 1 has 0 from 1 on", x.fits(0), 0);
    }

    private static void promise23Full() {
        Checks.says("Promise 23, section 3", "An EVENING (4 at most); FULL");
        OrdersInTurn x = Checks.threeGuests();
        for (int i = 1; i <= 4; i++) {
            Checks.due("evening number " + i, x.evening(0, 0, 0), i);
            Checks.due("how many", x.count(5), i);
        }
        Checks.due("evening number 5", x.evening(0, 0, 0), Checks.FULL);
        Twins.refused("evening(0, 0, 0), a fifth one", Scenes::crowded, y -> y.evening(0, 0, 0), Checks.FULL);
        Twins.refused("evening(4, 4, -1), a fifth one", Scenes::crowded, y -> y.evening(4, 4, -1), Checks.FULL);
    }

    private static void promise23UnknownAheadOfFull() {
        Checks.says("Promise 23", "UNKNOWN: first, guest, dish (NONE is good); FULL");
        Twins.refused("evening(5, 0, 0), full", Scenes::crowded, x -> x.evening(5, 0, 0), Checks.UNKNOWN);
        Twins.refused("evening(0, 5, 0), full", Scenes::crowded, x -> x.evening(0, 5, 0), Checks.UNKNOWN);
        Twins.refused("evening(0, 0, 6), full", Scenes::crowded, x -> x.evening(0, 0, 6), Checks.UNKNOWN);
        Twins.refused("evening(0, 0, -2), full", Scenes::crowded, x -> x.evening(0, 0, -2), Checks.UNKNOWN);
    }

    private static void promise24() {
        Checks.says("Promise 24", "All EVENINGS are gone: how many there were");
        Checks.due("forget(), no card", new OrdersInTurn().forget(), 0);
        Checks.due("forget(), no guests", Scenes.noGuests().forget(), 0);
        OrdersInTurn x = Scenes.crowded();
        Checks.due("forget() of four", x.forget(), 4);
        Checks.due("how many then", x.count(5), 0);
        Checks.due("every LOATH fits then", x.fits(0), 1023);
        Checks.due("forget() again", x.forget(), 0);
        for (int i = 1; i <= 4; i++) {
            Checks.due("evening number " + i + " then", x.evening(0, 0, 0), i);
        }
        Checks.due("evening number 5 then", x.evening(0, 0, 0), Checks.FULL);
    }

    private static void promise25What() {
        Checks.says("Promise 25", "What = 0 FITS, as bits, 1 SURE (NONE). OUTSIDE");
        for (int what : NOT_OF_TWO) {
            Twins.refused("fits(" + what + ")", Scenes::busy, x -> x.fits(what), Checks.OUTSIDE);
        }
        Checks.says("Promise 25", "STATE: no CARD");
        Twins.refused("fits(0)", Scenes::noCard, x -> x.fits(0), Checks.STATE);
        Twins.refused("fits(1)", Scenes::noCard, x -> x.fits(1), Checks.STATE);
        Checks.due("fits(0), no guests", Scenes.noGuests().fits(0), 1023);
        Checks.due("fits(1), no guests", Scenes.noGuests().fits(1), Checks.NONE);
        Checks.says("Promise 25", "OUTSIDE; STATE: no CARD");
        Twins.refused("fits(2), no card", Scenes::noCard, x -> x.fits(2), Checks.OUTSIDE);
        Twins.refused("fits(-1), no card", Scenes::noCard, x -> x.fits(-1), Checks.OUTSIDE);
    }

    /** An OWN has 0; who is behind him wants 0 by 9 and 1 by so much. */
    private static OrdersInTurn behindAnOwn(int wants) {
        OrdersInTurn x = Checks.withCard("91,91;5");
        Checks.sit(x, 1, 9, "90");
        Checks.sit(x, 0, 9, "9" + wants);
        return x;
    }

    private static void fitsIs(String what, OrdersInTurn x, int bits, int sure) {
        Checks.due(what + ": fits(0)", x.fits(0), bits);
        Checks.due(what + ": fits(1)", x.fits(1), sure);
        Checks.due(what + ": LOATH stays", x.count(1), 5);
    }

    private static void promise25Bits() {
        Checks.says("Promise 25, section 3", "by which LOATH (bits 0 to 9) all of these would have been so");
        // he has 0 while 9 - LOATH is no less than what he wants 1, and 1 from there on
        for (int wants = 0; wants <= 9; wants++) {
            int has0 = (1 << 10 - wants) - 1;
            OrdersInTurn x = behindAnOwn(wants);
            x.evening(0, 1, 0);
            Checks.due("he had 0, wants 1 by " + wants, x.fits(0), has0 & 1023);
            x.forget();
            x.evening(0, 1, 1);
            Checks.due("he had 1, wants 1 by " + wants, x.fits(0), 1023 & ~has0);
        }
        OrdersInTurn x = behindAnOwn(5);
        for (int i = 0; i < 3; i++) {
            x.evening(1, 0, 0);
        }
        fitsIs("three that always fit", x, 1023, Checks.NONE);
        x.evening(0, 1, 1);
        fitsIs("the fourth counts, too", x, 1023 - 31, Checks.NONE);
        fitsIs("no EVENINGS", behindAnOwn(5), 1023, Checks.NONE);
    }

    private static void promise25Sure() {
        Checks.says("Promise 25, section 3", "SURE: which one, if just one");
        OrdersInTurn x = behindAnOwn(9);
        x.evening(0, 1, 0);
        fitsIs("just 0", x, 1, 0);
        x = behindAnOwn(8);
        x.evening(0, 1, 0);
        fitsIs("0 and 1", x, 3, Checks.NONE);
        x = behindAnOwn(1);
        x.evening(0, 1, 1);
        fitsIs("just 9", x, 512, 9);
        x = behindAnOwn(2);
        x.evening(0, 1, 1);
        fitsIs("8 and 9", x, 768, Checks.NONE);
        x.evening(0, 1, 0);
        fitsIs("none", x, 0, Checks.NONE);
        for (int loath = 1; loath <= 9; loath++) {
            x = justOne(loath);
            x.evening(0, 2, 0);
            Checks.due("up to " + loath, x.fits(0), (1 << loath + 1) - 1);
            x.evening(0, 3, 2);
            fitsIs("just " + loath, x, 1 << loath, loath);
        }
    }

    /** Behind two OWN guests one has 0 up to this LOATH, and the next one leaves 1 for 2 from it on. */
    private static OrdersInTurn justOne(int loath) {
        OrdersInTurn x = Checks.withCard("91,91,91;5");
        Checks.sit(x, 1, 9, "900");
        Checks.sit(x, 1, 9, "090");
        Checks.sit(x, 0, 9, "90" + (9 - loath));
        Checks.sit(x, 0, 9, "09" + (10 - loath));
        return x;
    }

    private static void promise26Times() {
        Checks.says("Promise 26", "OUTSIDE: times (1 to 60)");
        int[] outside = {0, 61, -1, MIN, MAX};
        for (int times : outside) {
            Twins.refused("evenings(" + times + ", 5, 0)", Scenes::busy, x -> x.evenings(times, 5, 0), Checks.OUTSIDE);
        }
        for (int times = 1; times <= 60; times++) {
            evenings(times, 5);
        }
    }

    private static void promise26Seed() {
        Checks.says("Promise 26", "OUTSIDE: .. seed (0 at least)");
        int[] outside = {-1, -2, MIN};
        for (int seed : outside) {
            Twins.refused("evenings(5, " + seed + ", 0)", Scenes::busy, x -> x.evenings(5, seed, 0), Checks.OUTSIDE);
            Twins.refused("evenings(5, " + seed + ", 1)", Scenes::busy, x -> x.evenings(5, seed, 1), Checks.OUTSIDE);
        }
        int[] inside = {0, 1, 2, 65535, 65536, MAX - 1, MAX};
        for (int seed : inside) {
            evenings(1, seed);
            evenings(60, seed);
        }
    }

    /** Both answers against a plain walk: five OWN guests, so that only what is left and who begins counts. */
    private static void evenings(int times, int seed) {
        String[] wants = {"951470", "195147", "719514", "471951", "147195"};
        OrdersInTurn x = Checks.withCard("11,11,11,11,11,11;9");
        int[][] plain = new int[5][6];
        for (int g = 0; g < 5; g++) {
            Checks.sit(x, 1, 1, wants[g]);
            for (int d = 0; d < 6; d++) {
                plain[g][d] = wants[g].charAt(d) - '0';
            }
        }
        int joy = 0;
        int now = seed;
        for (int i = 0; i < times; i++) {
            now = next(now);
            int first = (now >> 16) % 5;
            now = next(now);
            int dish = (now >> 16) % 6;
            now = next(now);
            int guest = (now >> 16) % 5;
            now = next(now);
            plain[guest][dish] = (now >> 16) % 10;
            joy += joyInTurn(plain, first);
        }
        Checks.due("evenings(" + times + ", " + seed + ", 0)", x.evenings(times, seed, 0), joy);
        Checks.due("evenings(" + times + ", " + seed + ", 1)", x.evenings(times, seed, 1), now);
    }

    /** In ints that wrap around by 2 to the 32: the last 31 bits are the rest by 2 to the 31. */
    private static int next(int seed) {
        return seed * 1103515245 + 12345 & MAX;
    }

    private static int joyInTurn(int[][] wants, int first) {
        boolean[] gone = new boolean[6];
        int joy = 0;
        for (int i = 0; i < 5; i++) {
            int[] his = wants[(first + i) % 5];
            int best = -1;
            for (int d = 0; d < 6; d++) {
                if (!gone[d] && (best < 0 || his[d] > his[best])) {
                    best = d;
                }
            }
            gone[best] = true;
            joy += his[best];
        }
        return joy;
    }

    private static void promise26What() {
        Checks.says("Promise 26", "what = 0 JOY, 1 the SEED then. OUTSIDE: .. what");
        for (int what : NOT_OF_TWO) {
            Twins.refused("evenings(5, 5, " + what + ")", Scenes::busy, x -> x.evenings(5, 5, what), Checks.OUTSIDE);
        }
    }

    private static void promise26NoGuests() {
        Checks.says("Promise 26", "STATE: there are no GUESTS");
        Twins.refused("evenings(1, 0, 0)", Scenes::noGuests, x -> x.evenings(1, 0, 0), Checks.STATE);
        Twins.refused("evenings(60, 5, 1)", Scenes::noGuests, x -> x.evenings(60, 5, 1), Checks.STATE);
        Twins.refused("evenings(1, 0, 0), no card", Scenes::noCard, x -> x.evenings(1, 0, 0), Checks.STATE);
        OrdersInTurn x = Scenes.noGuests();
        x.guest(0, 9);
        Checks.due("evenings(1, 0, 1) with one", x.evenings(1, 0, 1), next(next(next(next(0)))));
    }

    private static void promise26FirstAsTold() {
        Checks.says("Promise 26", "OUTSIDE: times (1 to 60), seed (0 at least), what; STATE: there are no GUESTS");
        int[][] outside = {{0, 0, 0}, {61, 0, 0}, {1, -1, 0}, {1, 0, 2}, {1, 0, -1}, {0, -1, 2}};
        for (int[] o : outside) {
            String call = "evenings(" + o[0] + ", " + o[1] + ", " + o[2] + ")";
            Twins.refused(call + ", no guests", Scenes::noGuests, x -> x.evenings(o[0], o[1], o[2]), Checks.OUTSIDE);
            Twins.refused(call + ", no card", Scenes::noCard, x -> x.evenings(o[0], o[1], o[2]), Checks.OUTSIDE);
        }
    }

    private static void promise26AsTheyWouldBe() {
        Checks.says("Promise 26, section 3", "as they would be: so many, from a CLEARED table each");
        OrdersInTurn x = Scenes.crowded();
        long before = x.digest();
        int joy = x.evenings(60, 99, 0);
        Checks.due("digest() behind it", x.digest(), before);
        Checks.due("the same again", x.evenings(60, 99, 0), joy);
        x.clear();
        Checks.due("the same from a CLEARED table", x.evenings(60, 99, 0), joy);
    }

    private static void promise26Draws() {
        Checks.says("Promise 26, section 3", "1103515245 times it and 12345, its rest by 2 to the 31; then that by 65536 (rounded down), its rest");
        // 0: 12345; 1406932606; 654583775; 1449466924, all by a desk calculator
        Checks.due("one evening from 0 on", Checks.threeGuests().evenings(1, 0, 1), 1449466924);
        long seed = MAX;
        for (int i = 0; i < 4; i++) {
            seed = Math.floorMod(1103515245L * seed + 12345L, 1L << 31);
        }
        Checks.due("one evening from the last SEED on", Checks.threeGuests().evenings(1, MAX, 1), seed);
        OrdersInTurn x = Checks.threeGuests();
        int half = x.evenings(30, 7, 1);
        Checks.due("30 and 30 are 60, by the SEED", x.evenings(30, half, 1), x.evenings(60, 7, 1));
    }
}
