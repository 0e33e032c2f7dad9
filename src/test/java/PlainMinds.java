/** MINDS by the words of section 2, without its limit: five guests, each one's dish in a row, counted anew each time. */
final class PlainMinds {
    private static final int[] TIMES_LOATH = {-1, 0, -2, 1, 2};
    private static final int MOST_ROUNDS = 1000;

    private final int loath;
    private final int[] left;
    private final int[] price;
    private final int[] kind;
    private final int[] purse;
    private final String[] wants;
    private int urged = -1;
    private int much = 0;

    PlainMinds(int loath, int[] left, int[] price, int[] kind, int[] purse, String[] wants) {
        this.loath = loath;
        this.left = left;
        this.price = price;
        this.kind = kind;
        this.purse = purse;
        this.wants = wants;
    }

    void urge(int dish, int howMuch) {
        urged = dish;
        much = howMuch;
    }

    OrdersInTurn laid() {
        StringBuilder card = new StringBuilder();
        for (int d = 0; d < left.length; d++) {
            card.append(d == 0 ? "" : ",").append(left[d]).append(price[d]);
        }
        OrdersInTurn x = Checks.withCard(card.append(';').append(loath).toString());
        for (int g = 0; g < kind.length; g++) {
            Checks.sit(x, kind[g], purse[g], wants[g]);
        }
        if (urged >= 0) {
            x.urge(urged, much);
        }
        return x;
    }

    int rounds(int first) {
        int[] has = new int[kind.length];
        java.util.Arrays.fill(has, -1);
        for (int i = 0; i < has.length; i++) {
            int g = (first + i) % has.length;
            has[g] = taken(has, g);
        }
        for (int round = 1; round <= MOST_ROUNDS; round++) {
            boolean changed = false;
            for (int i = 0; i < has.length; i++) {
                int g = (first + i) % has.length;
                int had = has[g];
                has[g] = -1;
                int best = taken(has, g);
                boolean keeps = had >= 0 && value(has, g, had) >= value(has, g, best);
                has[g] = keeps ? had : best;
                changed = changed || has[g] != had;
            }
            if (!changed) {
                return round;
            }
        }
        return MOST_ROUNDS;
    }

    private static int holders(int[] has, int dish) {
        int many = 0;
        for (int d : has) {
            many += d == dish ? 1 : 0;
        }
        return many;
    }

    private int value(int[] has, int guest, int dish) {
        int sway = TIMES_LOATH[kind[guest]] * loath;
        return wants[guest].charAt(dish) - '0' + sway * holders(has, dish) + (dish == urged ? much : 0);
    }

    private int taken(int[] has, int guest) {
        int best = -1;
        for (int d = 0; d < left.length; d++) {
            boolean can = holders(has, d) < left[d] && price[d] <= purse[guest];
            if (can && (best < 0 || value(has, guest, d) > value(has, guest, best))) {
                best = d;
            }
        }
        return best;
    }
}
