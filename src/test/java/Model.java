import java.util.ArrayList;
import java.util.Arrays;
import java.util.List;
import java.util.function.IntBinaryOperator;

/**
 * The document said once more, as plainly as can be and with no thought of speed: every answer is worked out
 * anew from who has what. ModelTest compares the class with it over many runs.
 */
final class Model {
    static final int NONE = -1, UNKNOWN = -101, OUTSIDE = -102, STATE = -103, FULL = -104;

    /** All that an image keeps. */
    private static final class Kept {
        int[][] wants = new int[5][6];
        int[] purses = new int[5];
        List<int[]> orders = new ArrayList<>();
        int urged = NONE;
        int much = 0;
        List<int[]> told = new ArrayList<>();

        Kept copy() {
            Kept k = new Kept();
            for (int g = 0; g < 5; g++) {
                k.wants[g] = wants[g].clone();
            }
            k.purses = purses.clone();
            k.orders = new ArrayList<>(orders);
            k.urged = urged;
            k.much = much;
            k.told = new ArrayList<>(told);
            return k;
        }
    }

    private String page = "";
    private String card = "";
    private int[] kinds = new int[0];
    private Kept now = new Kept();
    private Kept image = null;
    private int cardsRead = 0;
    private int atOnceDone = 0;

    private int dishes() {
        return card.length() / 3;
    }

    private int left(int d) {
        return card.charAt(3 * d) - '0';
    }

    private int price(int d) {
        return card.charAt(3 * d + 1) - '0';
    }

    private int loath() {
        return card.isEmpty() ? 0 : card.charAt(card.length() - 1) - '0';
    }

    private boolean noGuest(int g) {
        return g < 0 || g >= kinds.length;
    }

    private boolean noDish(int d) {
        return d < 0 || d >= dishes();
    }

    private static boolean outside(int v, int least, int most) {
        return v < least || v > most;
    }

    private int sway(int g, int loath) {
        switch (kinds[g]) {
            case 0:
                return -loath;
            case 1:
                return 0;
            case 2:
                return -(loath + loath);
            case 3:
                return loath;
            default:
                return loath + loath;
        }
    }

    private static int howMany(int[] has, int d) {
        int n = 0;
        for (int h : has) {
            n += h == d ? 1 : 0;
        }
        return n;
    }

    /** What one would take beside what others have; he himself must have none. */
    private int taken(int[] has, int g, int loath, IntBinaryOperator urge) {
        int best = NONE;
        for (int d = dishes() - 1; d >= 0; d--) {
            if (howMany(has, d) < left(d) && price(d) <= now.purses[g]) {
                if (best == NONE || value(has, g, d, loath, urge) >= value(has, g, best, loath, urge)) {
                    best = d;
                }
            }
        }
        return best;
    }

    private int value(int[] has, int g, int d, int loath, IntBinaryOperator urge) {
        int[] others = has.clone();
        others[g] = NONE;
        return now.wants[g][d] + sway(g, loath) * howMany(others, d) + urge.applyAsInt(d, 0);
    }

    private int urgeNow(int d) {
        return d == now.urged ? now.much : 0;
    }

    private int[] turn(int first, int loath, IntBinaryOperator urge) {
        int[] has = new int[kinds.length];
        Arrays.fill(has, NONE);
        for (int i = 0; i < kinds.length; i++) {
            int g = (first + i) % kinds.length;
            has[g] = taken(has, g, loath, urge);
        }
        return has;
    }

    private int[] turn(int first) {
        return turn(first, loath(), (d, x) -> urgeNow(d));
    }

    private int joy(int[] has, int g) {
        return has[g] == NONE ? 0 : now.wants[g][has[g]];
    }

    private int joy(int[] has) {
        int sum = 0;
        for (int g = 0; g < has.length; g++) {
            sum += joy(has, g);
        }
        return sum;
    }

    private int[] hasNow() {
        int[] has = new int[kinds.length];
        Arrays.fill(has, NONE);
        for (int[] o : now.orders) {
            has[o[0]] = o[1];
        }
        return has;
    }

    private boolean ordered(int g) {
        for (int[] o : now.orders) {
            if (o[0] == g) {
                return true;
            }
        }
        return false;
    }

    int letter(int code) {
        if (outside(code, 1, 126)) {
            return OUTSIDE;
        }
        if (page.length() == 22) {
            return FULL;
        }
        page += (char) code;
        return page.length();
    }

    int blank() {
        int n = page.length();
        page = "";
        return n;
    }

    private static boolean startsCard(String text) {
        for (int n = 2; n <= 6; n++) {
            StringBuilder form = new StringBuilder("11");
            for (int i = 1; i < n; i++) {
                form.append(",11");
            }
            form.append(";0");
            boolean good = text.length() <= form.length();
            for (int i = 0; good && i < text.length(); i++) {
                char f = form.charAt(i);
                char c = text.charAt(i);
                good = f == '1' ? "123456789".indexOf(c) >= 0 : f == '0' ? "0123456789".indexOf(c) >= 0 : f == c;
            }
            if (good) {
                return true;
            }
        }
        return false;
    }

    int fault() {
        for (int i = 1; i <= page.length(); i++) {
            if (!startsCard(page.substring(0, i))) {
                return i - 1;
            }
        }
        return page.length();
    }

    int card() {
        if (!page.matches("[1-9][1-9](,[1-9][1-9]){1,5};[0-9]")) {
            return STATE;
        }
        card = page;
        page = "";
        kinds = new int[0];
        now = new Kept();
        image = null;
        cardsRead++;
        return dishes();
    }

    int dish(int d, int what) {
        if (noDish(d)) {
            return UNKNOWN;
        }
        if (outside(what, 0, 3)) {
            return OUTSIDE;
        }
        int have = howMany(hasNow(), d);
        return new int[] {left(d) - have, price(d), have, urgeNow(d)}[what];
    }

    int guest(int kind, int purse) {
        if (outside(kind, 0, 4) || outside(purse, 1, 9)) {
            return OUTSIDE;
        }
        if (card.isEmpty()) {
            return STATE;
        }
        if (kinds.length == 5) {
            return FULL;
        }
        kinds = Arrays.copyOf(kinds, kinds.length + 1);
        kinds[kinds.length - 1] = kind;
        now.purses[kinds.length - 1] = purse;
        image = null;
        return kinds.length - 1;
    }

    int about(int g, int what) {
        if (noGuest(g)) {
            return UNKNOWN;
        }
        if (outside(what, 0, 5)) {
            return OUTSIDE;
        }
        int[] has = hasNow();
        return new int[] {kinds[g], now.purses[g], has[g], ordered(g) ? 1 : 0, sway(g, loath()), joy(has, g)}[what];
    }

    int as(int g, int kind) {
        if (noGuest(g)) {
            return UNKNOWN;
        }
        if (outside(kind, 0, 4)) {
            return OUTSIDE;
        }
        int[][] of = {{0}, {0, 1}, {0, 2}, {0, 3}, {0, 3, 4}};
        for (int k : of[kinds[g]]) {
            if (k == kind) {
                return g;
            }
        }
        return NONE;
    }

    int want(int g, int d, int v) {
        if (noGuest(g) || noDish(d)) {
            return UNKNOWN;
        }
        if (outside(v, 0, 9)) {
            return OUTSIDE;
        }
        int was = now.wants[g][d];
        now.wants[g][d] = v;
        return was;
    }

    int purse(int g, int v) {
        if (noGuest(g)) {
            return UNKNOWN;
        }
        if (outside(v, 1, 9)) {
            return OUTSIDE;
        }
        int was = now.purses[g];
        now.purses[g] = v;
        return was;
    }

    int urge(int d, int much) {
        if (noDish(d)) {
            return UNKNOWN;
        }
        if (outside(much, 0, 20)) {
            return OUTSIDE;
        }
        int was = now.urged;
        now.urged = much > 0 ? d : NONE;
        now.much = much;
        return was;
    }

    int takes(int g) {
        if (noGuest(g)) {
            return UNKNOWN;
        }
        if (ordered(g)) {
            return STATE;
        }
        return taken(hasNow(), g, loath(), (d, x) -> urgeNow(d));
    }

    int order(int g) {
        int d = takes(g);
        if (d != UNKNOWN && d != STATE) {
            now.orders.add(new int[] {g, d});
        }
        return d;
    }

    int clear() {
        int n = now.orders.size();
        now.orders.clear();
        return n;
    }

    int inTurn(int first, int g) {
        return noGuest(first) || noGuest(g) ? UNKNOWN : turn(first)[g];
    }

    int begin(int g, int what) {
        if (g != NONE && noGuest(g)) {
            return UNKNOWN;
        }
        if (outside(what, 0, 1)) {
            return OUTSIDE;
        }
        if (kinds.length == 0) {
            return STATE;
        }
        int[] best = {0, -1};
        for (int first = 0; first < kinds.length; first++) {
            int[] has = turn(first);
            int joy = g == NONE ? joy(has) : joy(has, g);
            if (joy > best[1]) {
                best = new int[] {first, joy};
            }
        }
        return best[what];
    }

    int atOnce(int what) {
        if (outside(what, 0, 1)) {
            return OUTSIDE;
        }
        if (card.isEmpty() || atOnceDone == 20) {
            return STATE;
        }
        atOnceDone++;
        int ways = 0;
        int most = NONE;
        int all = 1;
        for (int g = 0; g < kinds.length; g++) {
            all *= dishes();
        }
        for (int code = 0; code < all; code++) {
            int[] has = new int[kinds.length];
            int rest = code;
            for (int g = 0; g < has.length; g++) {
                has[g] = rest % dishes();
                rest /= dishes();
            }
            if (isGoodWay(has)) {
                ways++;
                most = Math.max(most, joy(has));
            }
        }
        return what == 0 ? ways : most;
    }

    private boolean isGoodWay(int[] has) {
        for (int d = 0; d < dishes(); d++) {
            if (howMany(has, d) > left(d)) {
                return false;
            }
        }
        for (int g = 0; g < has.length; g++) {
            if (price(has[g]) > now.purses[g]) {
                return false;
            }
        }
        IntBinaryOperator urge = (d, x) -> urgeNow(d);
        for (int g = 0; g < has.length; g++) {
            for (int d = 0; d < dishes(); d++) {
                boolean could = d != has[g] && price(d) <= now.purses[g] && howMany(has, d) < left(d);
                if (could && value(has, g, d, loath(), urge) > value(has, g, has[g], loath(), urge)) {
                    return false;
                }
            }
        }
        return true;
    }

    int minds(int first) {
        if (noGuest(first)) {
            return UNKNOWN;
        }
        IntBinaryOperator urge = (d, x) -> urgeNow(d);
        int[] has = turn(first);
        for (int round = 1; round <= 20; round++) {
            int[] before = has.clone();
            boolean changed = false;
            for (int i = 0; i < kinds.length; i++) {
                int g = (first + i) % kinds.length;
                int old = has[g];
                has[g] = NONE;
                int anew = taken(has, g, loath(), urge);
                boolean keeps = old != NONE
                        && value(has, g, old, loath(), urge) >= value(has, g, anew, loath(), urge);
                has[g] = keeps ? old : anew;
                changed |= has[g] != old;
            }
            if (!changed) {
                return Arrays.equals(before, has) ? round : -999;
            }
        }
        return NONE;
    }

    int host() {
        if (card.isEmpty()) {
            return STATE;
        }
        int[] has = new int[kinds.length];
        Arrays.fill(has, NONE);
        return mostFrom(0, has);
    }

    private int mostFrom(int g, int[] has) {
        if (g == has.length) {
            return joy(has);
        }
        has[g] = NONE;
        int most = mostFrom(g + 1, has);
        for (int d = 0; d < dishes(); d++) {
            has[g] = NONE;
            if (price(d) <= now.purses[g] && howMany(has, d) < left(d)) {
                has[g] = d;
                most = Math.max(most, mostFrom(g + 1, has));
            }
        }
        has[g] = NONE;
        return most;
    }

    int fewest(int what) {
        if (outside(what, 0, 1)) {
            return OUTSIDE;
        }
        if (card.isEmpty()) {
            return STATE;
        }
        for (int few = 0; few <= dishes(); few++) {
            for (int bits = 0; bits < 64 && bits < 1 << dishes(); bits++) {
                if (Integer.bitCount(bits) == few && suits(bits)) {
                    return what == 0 ? few : bits;
                }
            }
        }
        return NONE;
    }

    private boolean suits(int bits) {
        int pleased = 0;
        for (int g = 0; g < kinds.length; g++) {
            int liked = 0;
            for (int d = 0; d < dishes(); d++) {
                liked |= now.wants[g][d] >= 5 ? 1 << d : 0;
            }
            pleased += (liked & bits) != 0 ? 1 : 0;
        }
        return pleased == kinds.length;
    }

    int urges(int dish, int first, int times) {
        if (noDish(dish) || noGuest(first)) {
            return UNKNOWN;
        }
        if (outside(times, 1, 5)) {
            return OUTSIDE;
        }
        for (int much = 0; much <= 20; much++) {
            int u = much;
            if (howMany(turn(first, loath(), (d, x) -> d == dish ? u : 0), dish) >= times) {
                return much;
            }
        }
        return NONE;
    }

    int evening(int first, int g, int d) {
        if (noGuest(first) || noGuest(g) || (d != NONE && noDish(d))) {
            return UNKNOWN;
        }
        if (now.told.size() == 4) {
            return FULL;
        }
        now.told.add(new int[] {first, g, d});
        return now.told.size();
    }

    int forget() {
        int n = now.told.size();
        now.told.clear();
        return n;
    }

    int fits(int what) {
        if (outside(what, 0, 1)) {
            return OUTSIDE;
        }
        if (card.isEmpty()) {
            return STATE;
        }
        List<Integer> good = new ArrayList<>();
        int bits = 0;
        for (int loath = 0; loath < 10; loath++) {
            boolean fits = true;
            for (int[] t : now.told) {
                fits &= turn(t[0], loath, (d, x) -> urgeNow(d))[t[1]] == t[2];
            }
            if (fits) {
                good.add(loath);
                bits += 1 << loath;
            }
        }
        return what == 0 ? bits : good.size() == 1 ? good.get(0) : NONE;
    }

    int evenings(int times, int seed, int what) {
        if (outside(times, 1, 60) || seed < 0 || outside(what, 0, 1)) {
            return OUTSIDE;
        }
        if (kinds.length == 0) {
            return STATE;
        }
        Kept before = now.copy();
        long s = seed;
        int joy = 0;
        int[] of = {kinds.length, dishes(), kinds.length, 10};
        for (int i = 0; i < times; i++) {
            int[] drawn = new int[4];
            for (int k = 0; k < 4; k++) {
                s = (1103515245L * s + 12345L) & 0x7fffffffL;
                drawn[k] = (int) ((s >> 16) % of[k]);
            }
            now.wants[drawn[2]][drawn[1]] = drawn[3];
            joy += joy(turn(drawn[0]));
        }
        now = before;
        return what == 0 ? joy : (int) s;
    }

    int image() {
        if (card.isEmpty()) {
            return STATE;
        }
        image = now.copy();
        return now.orders.size();
    }

    int restore() {
        if (image == null) {
            return STATE;
        }
        now = image.copy();
        return now.orders.size();
    }

    int count(int what) {
        if (outside(what, 0, 8)) {
            return OUTSIDE;
        }
        return new int[] {dishes(), loath(), kinds.length, now.orders.size(), joy(hasNow()), now.told.size(),
            page.length(), cardsRead, atOnceDone}[what];
    }

    long digest() {
        List<Integer> all = new ArrayList<>();
        for (int d = 0; d < dishes(); d++) {
            for (int what = 0; what < 4; what++) {
                all.add(dish(d, what));
            }
        }
        for (int g = 0; g < kinds.length; g++) {
            for (int what = 0; what < 6; what++) {
                all.add(about(g, what));
            }
            for (int d = 0; d < dishes(); d++) {
                all.add(now.wants[g][d]);
            }
            all.add(minds(g));
        }
        if (!card.isEmpty()) {
            all.addAll(List.of(host(), fewest(0), fewest(1), fits(0)));
        }
        if (kinds.length > 0) {
            all.addAll(List.of(begin(NONE, 0), begin(NONE, 1)));
        }
        for (char c : page.toCharArray()) {
            all.add((int) c);
        }
        for (int what = 0; what < 9; what++) {
            all.add(count(what));
        }
        long h = 757;
        for (int number : all) {
            h = 31 * h + number;
        }
        return h;
    }
}
