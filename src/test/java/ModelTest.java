import java.util.Random;

/** Many runs of calls by fixed seeds, on the class and on the model: every answer must be the same. */
public final class ModelTest {
    private static final int RUNS = 1500;
    /** A card read last takes some more; an object is good for 512. */
    private static final int CALLS = 480;

    private final Random random;
    private final OrdersInTurn x = new OrdersInTurn();
    private final Model m = new Model();
    private int made = 0;
    private final int run;

    private ModelTest(int run) {
        this.run = run;
        random = new Random(run);
    }

    public static void main(String[] args) {
        for (int run = 0; run < RUNS; run++) {
            new ModelTest(run).go();
        }
        Checks.close("ModelTest");
    }

    private void go() {
        if (run % 10 != 0) {
            readCard();
            int guests = random.nextInt(6);
            for (int g = 0; g < guests; g++) {
                seatGuest();
            }
        }
        while (made < CALLS) {
            if (random.nextInt(150) == 0) {
                readCard();
            } else if (random.nextInt(30) == 0) {
                seatGuest();
            } else {
                anyCall();
            }
        }
    }

    private void same(String call, long got, long want) {
        made++;
        Checks.due("run " + run + ", call " + made + ": " + call, got, want);
    }

    private int upTo(int most) {
        return random.nextInt(most + 1);
    }

    /** Mostly a number from 0 to most, now and then one beside it or far off. */
    private int near(int most) {
        int k = random.nextInt(40);
        if (k == 0) {
            return -1;
        }
        if (k == 1) {
            return most + 1;
        }
        if (k == 2) {
            return random.nextBoolean() ? Integer.MIN_VALUE : Integer.MAX_VALUE;
        }
        return upTo(most);
    }

    private int someGuest() {
        return near(Math.max(0, m.count(2) - 1));
    }

    private int someDish() {
        return near(Math.max(0, m.count(0) - 1));
    }

    private void readCard() {
        same("blank()", x.blank(), m.blank());
        StringBuilder text = new StringBuilder();
        int dishes = 2 + upTo(4);
        int mostLeft = 1 + upTo(3);
        int mostPrice = 1 + upTo(8);
        for (int d = 0; d < dishes; d++) {
            text.append(d == 0 ? "" : ",").append(1 + random.nextInt(mostLeft)).append(1 + random.nextInt(mostPrice));
        }
        text.append(';').append(random.nextInt(10));
        if (random.nextInt(6) == 0) {
            text.setCharAt(random.nextInt(text.length()), "0159,;:/x".charAt(random.nextInt(9)));
        }
        for (int i = 0; i < text.length(); i++) {
            same("letter", x.letter(text.charAt(i)), m.letter(text.charAt(i)));
        }
        same("fault() of " + text, x.fault(), m.fault());
        same("card() of " + text, x.card(), m.card());
    }

    private void seatGuest() {
        int kind = near(4);
        int purse = random.nextInt(3) == 0 ? near(9) : 5 + upTo(4);
        same("guest(" + kind + ", " + purse + ")", x.guest(kind, purse), m.guest(kind, purse));
        int seat = m.count(2) - 1;
        for (int d = 0; d < m.count(0); d++) {
            int v = upTo(9);
            same("want(" + seat + ", " + d + ", " + v + ")", x.want(seat, d, v), m.want(seat, d, v));
        }
    }

    private void anyCall() {
        int which = random.nextInt(4);
        if (which == 0) {
            pageCall();
        } else if (which == 1) {
            guestCall();
        } else if (which == 2) {
            forecastCall();
        } else {
            otherCall();
        }
    }

    private void pageCall() {
        int a = someDish();
        int b = near(3);
        switch (random.nextInt(6)) {
            case 0:
                int code = random.nextBoolean() ? near(127) : "123,;0".charAt(random.nextInt(6));
                same("letter(" + code + ")", x.letter(code), m.letter(code));
                break;
            case 1:
                if (random.nextInt(8) == 0) {
                    same("blank()", x.blank(), m.blank());
                }
                break;
            case 2:
                same("fault()", x.fault(), m.fault());
                break;
            case 3:
                same("card()", x.card(), m.card());
                break;
            default:
                same("dish(" + a + ", " + b + ")", x.dish(a, b), m.dish(a, b));
        }
    }

    private void guestCall() {
        int g = someGuest();
        int d = someDish();
        int five = near(5);
        int digit = near(9);
        int much = near(20);
        switch (random.nextInt(9)) {
            case 0:
                same("about(" + g + ", " + five + ")", x.about(g, five), m.about(g, five));
                break;
            case 1:
                same("as(" + g + ", " + five + ")", x.as(g, five), m.as(g, five));
                break;
            case 2:
                same("want(" + g + ", " + d + ", " + digit + ")", x.want(g, d, digit), m.want(g, d, digit));
                break;
            case 3:
                same("purse(" + g + ", " + digit + ")", x.purse(g, digit), m.purse(g, digit));
                break;
            case 4:
                same("urge(" + d + ", " + much + ")", x.urge(d, much), m.urge(d, much));
                break;
            case 5:
                same("takes(" + g + ")", x.takes(g), m.takes(g));
                break;
            case 6:
                if (random.nextInt(3) == 0) {
                    same("clear()", x.clear(), m.clear());
                }
                break;
            default:
                same("order(" + g + ")", x.order(g), m.order(g));
        }
    }

    private void forecastCall() {
        int g = someGuest();
        int f = someGuest();
        int d = someDish();
        int what = near(1);
        int times = near(5);
        int who = random.nextInt(3) == 0 ? Checks.NONE : g;
        switch (random.nextInt(7)) {
            case 0:
                same("inTurn(" + f + ", " + g + ")", x.inTurn(f, g), m.inTurn(f, g));
                break;
            case 1:
                same("begin(" + who + ", " + what + ")", x.begin(who, what), m.begin(who, what));
                break;
            case 2:
                if (random.nextInt(3) == 0) {
                    same("atOnce(" + what + ")", x.atOnce(what), m.atOnce(what));
                }
                break;
            case 3:
                same("minds(" + f + ")", x.minds(f), m.minds(f));
                break;
            case 4:
                same("host()", x.host(), m.host());
                break;
            case 5:
                same("fewest(" + what + ")", x.fewest(what), m.fewest(what));
                break;
            default:
                same("urges(" + d + ", " + f + ", " + times + ")", x.urges(d, f, times), m.urges(d, f, times));
        }
    }

    private void otherCall() {
        int g = someGuest();
        int f = someGuest();
        int d = random.nextInt(5) == 0 ? Checks.NONE : someDish();
        int what = near(1);
        switch (random.nextInt(9)) {
            case 0:
                int had = random.nextBoolean() ? Math.max(Checks.NONE, m.inTurn(f, g)) : d;
                same("evening(" + f + ", " + g + ", " + had + ")", x.evening(f, g, had), m.evening(f, g, had));
                break;
            case 1:
                if (random.nextInt(4) == 0) {
                    same("forget()", x.forget(), m.forget());
                }
                break;
            case 2:
            case 3:
                same("fits(" + what + ")", x.fits(what), m.fits(what));
                break;
            case 4:
                int times = near(60);
                int seed = random.nextInt(9) == 0 ? -random.nextInt(3) : random.nextInt() & Integer.MAX_VALUE;
                same("evenings(" + times + ", " + seed + ", " + what + ")",
                        x.evenings(times, seed, what), m.evenings(times, seed, what));
                break;
            case 5:
                same("image()", x.image(), m.image());
                break;
            case 6:
                same("restore()", x.restore(), m.restore());
                break;
            case 7:
                int nth = near(8);
                same("count(" + nth + ")", x.count(nth), m.count(nth));
                break;
            default:
                same("digest()", x.digest(), m.digest());
        }
    }
}
