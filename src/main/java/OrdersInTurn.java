/**
 * Guests at a round table order in turn from a card, each swayed by what those ahead of him have.
 * Every call answers a number; a refusal is one of the constants below and changes nothing.
 */
public final class OrdersInTurn {
    public static final int NONE = -1, UNKNOWN = -101, OUTSIDE = -102, STATE = -103, FULL = -104;

    private static final int MOST_LETTERS = 22;
    private static final int LEAST_DISHES = 2;
    private static final int MOST_DISHES = 6;
    private static final int MOST_GUESTS = 5;
    private static final int MOST_EVENINGS = 4;
    private static final int MOST_ROUNDS = 20;
    private static final int MOST_URGE = 20;
    private static final int MOST_AT_ONCE = 20;
    private static final int MOST_TIMES = 60;
    private static final int LOATHS = 10;
    private static final int WELL_LIKED = 5;
    private static final int COUNTS = 9;

    private static final int ANY_GUEST = 0, SHEEP = 3, LAMB = 4;
    /** By kind: how many times LOATH one who has a dish ahead of him adds to its value. */
    private static final int[] SWAYS = {-1, 0, -2, 1, 2};

    private final Page page;
    private final Menu menu;
    private final Party party;
    private final Table table;
    private final Log log;
    private final Forecast forecast;
    private final Image kept;
    private int cardsRead;
    private int atOnceDone;

    public OrdersInTurn() {
        page = new Page();
        menu = new Menu();
        party = new Party();
        table = new Table(menu, party);
        log = new Log();
        forecast = new Forecast(menu, party, table);
        kept = new Image(menu, party);
    }

    // ---- the card

    public int letter(int code) {
        if (isOutside(code, 1, 126)) {
            return OUTSIDE;
        }
        if (page.size >= MOST_LETTERS) {
            return FULL;
        }
        page.letters[page.size] = code;
        page.size++;
        return page.size;
    }

    public int blank() {
        int had = page.size;
        page.size = 0;
        return had;
    }

    public int fault() {
        return page.firstFault();
    }

    public int card() {
        if (!page.isCard()) {
            return STATE;
        }
        menu.read(page);
        page.size = 0;
        party.size = 0;
        log.size = 0;
        table.loath = menu.loath;
        table.press(NONE, 0);
        table.wipe();
        cardsRead++;
        return menu.dishes;
    }

    public int dish(int dish, int what) {
        if (noDish(dish)) {
            return UNKNOWN;
        }
        switch (what) {
            case 0:
                return table.left[dish];
            case 1:
                return menu.price[dish];
            case 2:
                return table.holders[dish];
            case 3:
                return dish == table.urged ? table.much : 0;
            default:
                return OUTSIDE;
        }
    }

    // ---- guests

    public int guest(int kind, int purse) {
        if (isOutside(kind, ANY_GUEST, LAMB) || isOutside(purse, 1, 9)) {
            return OUTSIDE;
        }
        if (noCard()) {
            return STATE;
        }
        if (party.size >= MOST_GUESTS) {
            return FULL;
        }
        party.seats[party.size].sitDown(kind, purse);
        party.size++;
        return party.size - 1;
    }

    public int about(int guest, int what) {
        if (noGuest(guest)) {
            return UNKNOWN;
        }
        switch (what) {
            case 0:
                return party.seats[guest].kind;
            case 1:
                return party.seats[guest].purse;
            case 2:
                return table.has[guest];
            case 3:
                return table.ordered[guest];
            case 4:
                return party.seats[guest].swayByLoath * menu.loath;
            case 5:
                return table.joyOf(guest);
            default:
                return OUTSIDE;
        }
    }

    public int as(int guest, int kind) {
        if (noGuest(guest)) {
            return UNKNOWN;
        }
        if (isOutside(kind, ANY_GUEST, LAMB)) {
            return OUTSIDE;
        }
        return party.seats[guest].isOfKind(kind) ? guest : NONE;
    }

    public int want(int guest, int dish, int v) {
        if (noGuest(guest) || noDish(dish)) {
            return UNKNOWN;
        }
        if (isOutside(v, 0, 9)) {
            return OUTSIDE;
        }
        int was = party.seats[guest].wants[dish];
        party.seats[guest].wants[dish] = v;
        return was;
    }

    public int purse(int guest, int v) {
        if (noGuest(guest)) {
            return UNKNOWN;
        }
        if (isOutside(v, 1, 9)) {
            return OUTSIDE;
        }
        int was = party.seats[guest].purse;
        party.seats[guest].purse = v;
        return was;
    }

    public int urge(int dish, int much) {
        if (noDish(dish)) {
            return UNKNOWN;
        }
        if (isOutside(much, 0, MOST_URGE)) {
            return OUTSIDE;
        }
        int was = table.urged;
        table.press(dish, much);
        return was;
    }

    public int takes(int guest) {
        if (noGuest(guest)) {
            return UNKNOWN;
        }
        if (table.ordered[guest] == 1) {
            return STATE;
        }
        return table.choice(guest);
    }

    public int order(int guest) {
        int taken = takes(guest);
        if (taken >= NONE) {
            table.give(guest, taken);
        }
        return taken;
    }

    public int clear() {
        int had = table.howManyOrdered();
        table.wipe();
        return had;
    }

    // ---- what would be

    public int inTurn(int first, int guest) {
        if (noGuest(first) || noGuest(guest)) {
            return UNKNOWN;
        }
        return forecast.dishInTurn(first, guest);
    }

    public int begin(int guest, int what) {
        if (guest != NONE && noGuest(guest)) {
            return UNKNOWN;
        }
        if (isOutside(what, 0, 1)) {
            return OUTSIDE;
        }
        if (party.size == 0) {
            return STATE;
        }
        int first = forecast.bestFirst(guest);
        return what == 0 ? first : forecast.joyFrom(first, guest);
    }

    public int atOnce(int what) {
        if (isOutside(what, 0, 1)) {
            return OUTSIDE;
        }
        if (noCard() || atOnceDone >= MOST_AT_ONCE) {
            return STATE;
        }
        atOnceDone++;
        forecast.seekContent();
        return what == 0 ? forecast.ways : forecast.mostJoy;
    }

    public int minds(int first) {
        if (noGuest(first)) {
            return UNKNOWN;
        }
        return forecast.roundsTillSettled(first);
    }

    public int host() {
        if (noCard()) {
            return STATE;
        }
        return forecast.mostGiven();
    }

    public int fewest(int what) {
        if (isOutside(what, 0, 1)) {
            return OUTSIDE;
        }
        if (noCard()) {
            return STATE;
        }
        int bits = forecast.fewestBits();
        return what == 1 || bits == NONE ? bits : Integer.bitCount(bits);
    }

    public int urges(int dish, int first, int times) {
        if (noDish(dish) || noGuest(first)) {
            return UNKNOWN;
        }
        if (isOutside(times, 1, MOST_GUESTS)) {
            return OUTSIDE;
        }
        return forecast.leastUrge(dish, first, times);
    }

    // ---- evenings

    public int evening(int first, int guest, int dish) {
        if (noGuest(first) || noGuest(guest) || (dish != NONE && noDish(dish))) {
            return UNKNOWN;
        }
        if (log.size >= MOST_EVENINGS) {
            return FULL;
        }
        log.add(first, guest, dish);
        return log.size;
    }

    public int forget() {
        int had = log.size;
        log.size = 0;
        return had;
    }

    public int fits(int what) {
        if (isOutside(what, 0, 1)) {
            return OUTSIDE;
        }
        if (noCard()) {
            return STATE;
        }
        int bits = forecast.fittingLoaths(log);
        return what == 0 ? bits : onlyLoath(bits);
    }

    public int evenings(int times, int seed, int what) {
        if (isOutside(times, 1, MOST_TIMES) || seed < 0 || isOutside(what, 0, 1)) {
            return OUTSIDE;
        }
        if (party.size == 0) {
            return STATE;
        }
        int joy = forecast.joyOfEvenings(times, seed);
        return what == 0 ? joy : (int) forecast.seed;
    }

    // ---- what is told of all

    public int image() {
        if (noCard()) {
            return STATE;
        }
        kept.take(party, table, log);
        kept.cardNumber = cardsRead;
        return table.howManyOrdered();
    }

    public int restore() {
        if (noCard() || kept.cardNumber != cardsRead || kept.guests != party.size) {
            return STATE;
        }
        kept.putBack(party, table, log);
        return table.howManyOrdered();
    }

    public int count(int what) {
        switch (what) {
            case 0:
                return menu.dishes;
            case 1:
                return menu.loath;
            case 2:
                return party.size;
            case 3:
                return table.howManyOrdered();
            case 4:
                return table.joyOfAll();
            case 5:
                return log.size;
            case 6:
                return page.size;
            case 7:
                return cardsRead;
            case 8:
                return atOnceDone;
            default:
                return OUTSIDE;
        }
    }

    public long digest() {
        long h = mixedGuests(mixedDishes(757L));
        if (!noCard()) {
            h = mixed(h, host());
            h = mixed(h, fewest(0));
            h = mixed(h, fewest(1));
            h = mixed(h, fits(0));
        }
        if (party.size > 0) {
            h = mixed(h, begin(NONE, 0));
            h = mixed(h, begin(NONE, 1));
        }
        for (int i = 0; i < page.size; i++) {
            h = mixed(h, page.letters[i]);
        }
        for (int what = 0; what < COUNTS; what++) {
            h = mixed(h, count(what));
        }
        return h;
    }

    private long mixedDishes(long start) {
        long h = start;
        for (int d = 0; d < menu.dishes; d++) {
            for (int what = 0; what < 4; what++) {
                h = mixed(h, dish(d, what));
            }
        }
        return h;
    }

    private long mixedGuests(long start) {
        long h = start;
        for (int g = 0; g < party.size; g++) {
            for (int what = 0; what < 6; what++) {
                h = mixed(h, about(g, what));
            }
            for (int d = 0; d < menu.dishes; d++) {
                h = mixed(h, party.seats[g].wants[d]);
            }
            h = mixed(h, minds(g));
        }
        return h;
    }

    private static long mixed(long h, long number) {
        return 31L * h + number;
    }

    private static int onlyLoath(int bits) {
        for (int loath = 0; loath < LOATHS; loath++) {
            if (bits == 1 << loath) {
                return loath;
            }
        }
        return NONE;
    }

    private static boolean isOutside(int number, int least, int most) {
        return number < least || number > most;
    }

    private boolean noCard() {
        return menu.dishes == 0;
    }

    private boolean noDish(int number) {
        return number < 0 || number >= menu.dishes;
    }

    private boolean noGuest(int number) {
        return number < 0 || number >= party.size;
    }

    /** The letters that may become a card. */
    private static final class Page {
        final int[] letters = new int[MOST_LETTERS];
        int size;

        int firstFault() {
            for (int at = 0; at < size; at++) {
                if (!isGood(at)) {
                    return at;
                }
            }
            return size;
        }

        boolean isCard() {
            return size >= 2 && letters[size - 2] == ';' && firstFault() == size;
        }

        /** Asked only where all letters ahead are good, so the last ones of them tell the place. */
        private boolean isGood(int at) {
            int code = letters[at];
            if (at > 0 && letters[at - 1] == ';') {
                return code >= '0' && code <= '9';
            }
            if (at > 1 && letters[at - 2] == ';') {
                return false;
            }
            if (at % 3 < 2) {
                return code >= '1' && code <= '9';
            }
            int dishes = at / 3 + 1;
            return code == ',' ? dishes < MOST_DISHES : code == ';' && dishes >= LEAST_DISHES;
        }
    }

    /** The card as it was read; without dishes there is none. */
    private static final class Menu {
        final int[] stock = new int[MOST_DISHES];
        final int[] price = new int[MOST_DISHES];
        int dishes;
        int loath;

        /** The page must be a card: three letters a dish, and the digit behind. */
        void read(Page page) {
            dishes = Math.min(page.size / 3, MOST_DISHES);
            for (int d = 0; d < dishes; d++) {
                stock[d] = page.letters[3 * d] - '0';
                price[d] = page.letters[3 * d + 1] - '0';
            }
            loath = page.letters[3 * dishes] - '0';
        }
    }

    /** One at the table. */
    private static final class Guest {
        final int[] wants = new int[MOST_DISHES];
        int kind;
        int purse;
        int swayByLoath;

        void sitDown(int newKind, int newPurse) {
            kind = newKind;
            purse = newPurse;
            swayByLoath = SWAYS[newKind];
            for (int d = 0; d < MOST_DISHES; d++) {
                wants[d] = 0;
            }
        }

        boolean isOfKind(int other) {
            return other == ANY_GUEST || other == kind || (other == SHEEP && kind == LAMB);
        }
    }

    /** Those who sit in the round; every seat has its object from the start, to be used again. */
    private static final class Party {
        final Guest[] seats = new Guest[MOST_GUESTS];
        int size;

        Party() {
            for (int i = 0; i < MOST_GUESTS; i++) {
                seats[i] = new Guest();
            }
        }

        /** Who is so many places behind one in the round; steps is less than the size. */
        int behind(int first, int steps) {
            int at = first + steps;
            return at < size ? at : at - size;
        }

        void saveWants(int[][] to) {
            for (int g = 0; g < MOST_GUESTS; g++) {
                System.arraycopy(seats[g].wants, 0, to[g], 0, MOST_DISHES);
            }
        }

        void loadWants(int[][] from) {
            for (int g = 0; g < MOST_GUESTS; g++) {
                System.arraycopy(from[g], 0, seats[g].wants, 0, MOST_DISHES);
            }
        }
    }

    /** Who has what, what is left, and what bears on a choice: the urge, and how loath they are. */
    private static final class Table {
        final Menu menu;
        final Party party;
        final int[] left = new int[MOST_DISHES];
        final int[] holders = new int[MOST_DISHES];
        final int[] has = new int[MOST_GUESTS];
        final int[] ordered = new int[MOST_GUESTS];
        int urged = NONE;
        int much;
        int loath;

        Table(Menu menu, Party party) {
            this.menu = menu;
            this.party = party;
        }

        void wipe() {
            for (int d = 0; d < MOST_DISHES; d++) {
                left[d] = menu.stock[d];
                holders[d] = 0;
            }
            for (int g = 0; g < MOST_GUESTS; g++) {
                has[g] = NONE;
                ordered[g] = 0;
            }
        }

        void press(int dish, int howMuch) {
            urged = howMuch == 0 ? NONE : dish;
            much = howMuch;
        }

        boolean canHave(int guest, int dish) {
            return left[dish] > 0 && menu.price[dish] <= party.seats[guest].purse;
        }

        /** All others who have the dish count as ahead of him; he himself never does. */
        int value(int guest, int dish) {
            Guest one = party.seats[guest];
            int ahead = has[guest] == dish ? holders[dish] - 1 : holders[dish];
            int urge = dish == urged ? much : 0;
            return one.wants[dish] + one.swayByLoath * loath * ahead + urge;
        }

        int choice(int guest) {
            int best = NONE;
            int most = 0;
            for (int d = 0; d < menu.dishes; d++) {
                if (canHave(guest, d)) {
                    int v = value(guest, d);
                    if (best == NONE || v > most) {
                        best = d;
                        most = v;
                    }
                }
            }
            return best;
        }

        void give(int guest, int dish) {
            has[guest] = dish;
            ordered[guest] = 1;
            if (dish != NONE) {
                left[dish]--;
                holders[dish]++;
            }
        }

        void giveBack(int guest) {
            int dish = has[guest];
            has[guest] = NONE;
            ordered[guest] = 0;
            if (dish != NONE) {
                left[dish]++;
                holders[dish]--;
            }
        }

        /** He gives back what he has and takes anew: whether it is something else. */
        boolean changesMind(int guest) {
            int old = has[guest];
            giveBack(guest);
            int best = choice(guest);
            if (old != NONE && best != NONE && value(guest, old) >= value(guest, best)) {
                best = old;
            }
            give(guest, best);
            return best != old;
        }

        /** Whether nobody would have more value alone by another dish; all must have one. */
        boolean allContent() {
            for (int g = 0; g < party.size; g++) {
                int own = value(g, has[g]);
                for (int d = 0; d < menu.dishes; d++) {
                    if (d != has[g] && canHave(g, d) && value(g, d) > own) {
                        return false;
                    }
                }
            }
            return true;
        }

        int joyOf(int guest) {
            return has[guest] == NONE ? 0 : party.seats[guest].wants[has[guest]];
        }

        int joyOfAll() {
            int sum = 0;
            for (int g = 0; g < party.size; g++) {
                sum += joyOf(g);
            }
            return sum;
        }

        int howManyOrdered() {
            int many = 0;
            for (int g = 0; g < party.size; g++) {
                many += ordered[g];
            }
            return many;
        }

        void copyFrom(Table other) {
            System.arraycopy(other.left, 0, left, 0, MOST_DISHES);
            System.arraycopy(other.holders, 0, holders, 0, MOST_DISHES);
            System.arraycopy(other.has, 0, has, 0, MOST_GUESTS);
            System.arraycopy(other.ordered, 0, ordered, 0, MOST_GUESTS);
            urged = other.urged;
            much = other.much;
            loath = other.loath;
        }
    }

    /** The evenings told. */
    private static final class Log {
        final int[] first = new int[MOST_EVENINGS];
        final int[] guest = new int[MOST_EVENINGS];
        final int[] dish = new int[MOST_EVENINGS];
        int size;

        void add(int from, int who, int had) {
            first[size] = from;
            guest[size] = who;
            dish[size] = had;
            size++;
        }

        void copyFrom(Log other) {
            System.arraycopy(other.first, 0, first, 0, MOST_EVENINGS);
            System.arraycopy(other.guest, 0, guest, 0, MOST_EVENINGS);
            System.arraycopy(other.dish, 0, dish, 0, MOST_EVENINGS);
            size = other.size;
        }
    }

    /** What can be gone back to, while the card and the guests are the same. */
    private static final class Image {
        final Table table;
        final Log log;
        final int[][] wants = new int[MOST_GUESTS][MOST_DISHES];
        final int[] purses = new int[MOST_GUESTS];
        int guests;
        int cardNumber;

        Image(Menu menu, Party party) {
            table = new Table(menu, party);
            log = new Log();
        }

        void take(Party party, Table now, Log told) {
            table.copyFrom(now);
            log.copyFrom(told);
            guests = party.size;
            party.saveWants(wants);
            for (int g = 0; g < MOST_GUESTS; g++) {
                purses[g] = party.seats[g].purse;
            }
        }

        void putBack(Party party, Table now, Log told) {
            now.copyFrom(table);
            told.copyFrom(log);
            party.loadWants(wants);
            for (int g = 0; g < MOST_GUESTS; g++) {
                party.seats[g].purse = purses[g];
            }
        }
    }

    /** What would be, tried on a table of its own, so that the real one is never touched. */
    private static final class Forecast {
        private static final int GROUPS = 1 << MOST_GUESTS;

        final Menu menu;
        final Party party;
        final Table real;
        final Table trial;
        final int[] bestOfGroup = new int[GROUPS];
        final int[] joyOfGroup = new int[GROUPS];
        final int[][] wantsKept = new int[MOST_GUESTS][MOST_DISHES];
        int ways;
        int mostJoy;
        long seed;

        Forecast(Menu menu, Party party, Table real) {
            this.menu = menu;
            this.party = party;
            this.real = real;
            trial = new Table(menu, party);
        }

        private void setUp() {
            trial.wipe();
            trial.loath = menu.loath;
            trial.press(real.urged, real.much);
        }

        private void goRound(int first) {
            for (int i = 0; i < party.size; i++) {
                int g = party.behind(first, i);
                trial.give(g, trial.choice(g));
            }
        }

        int dishInTurn(int first, int guest) {
            setUp();
            goRound(first);
            return trial.has[guest];
        }

        int joyFrom(int first, int guest) {
            setUp();
            goRound(first);
            return guest == NONE ? trial.joyOfAll() : trial.joyOf(guest);
        }

        int bestFirst(int guest) {
            int best = 0;
            int most = NONE;
            for (int first = 0; first < party.size; first++) {
                int joy = joyFrom(first, guest);
                if (joy > most) {
                    best = first;
                    most = joy;
                }
            }
            return best;
        }

        void seekContent() {
            ways = 0;
            mostJoy = NONE;
            setUp();
            seatOnwards(0);
        }

        /** Tries every dish for one guest and those behind him; the guest's number is the depth. */
        private void seatOnwards(int guest) {
            if (guest >= party.size) {
                if (trial.allContent()) {
                    ways++;
                    mostJoy = Math.max(mostJoy, trial.joyOfAll());
                }
                return;
            }
            for (int d = 0; d < menu.dishes; d++) {
                if (trial.canHave(guest, d)) {
                    trial.give(guest, d);
                    seatOnwards(guest + 1);
                    trial.giveBack(guest);
                }
            }
        }

        int roundsTillSettled(int first) {
            setUp();
            goRound(first);
            for (int round = 1; round <= MOST_ROUNDS; round++) {
                boolean changed = false;
                for (int i = 0; i < party.size; i++) {
                    if (trial.changesMind(party.behind(first, i))) {
                        changed = true;
                    }
                }
                if (!changed) {
                    return round;
                }
            }
            return NONE;
        }

        /**
         * Dish by dish, each to a group of guests, instead of guest by guest: far fewer steps, since of the
         * dishes before only who has one of them matters, not which.
         */
        int mostGiven() {
            int groups = 1 << party.size;
            for (int group = 0; group < groups; group++) {
                bestOfGroup[group] = 0;
            }
            for (int d = 0; d < menu.dishes; d++) {
                findJoyOfGroups(d);
                // from the largest group down: a smaller one must still be as before this dish
                for (int group = groups - 1; group > 0; group--) {
                    for (int part = 1; part <= group; part++) {
                        if ((part & group) == part && joyOfGroup[part] != NONE) {
                            int joy = bestOfGroup[group ^ part] + joyOfGroup[part];
                            bestOfGroup[group] = Math.max(bestOfGroup[group], joy);
                        }
                    }
                }
            }
            return bestOfGroup[groups - 1];
        }

        /** The joy of each group if all in it have this dish; NONE where they cannot. */
        private void findJoyOfGroups(int dish) {
            joyOfGroup[0] = 0;
            for (int g = 0; g < party.size; g++) {
                Guest last = party.seats[g];
                boolean pays = menu.price[dish] <= last.purse;
                for (int others = 0; others < 1 << g; others++) {
                    boolean can = pays && joyOfGroup[others] != NONE
                            && Integer.bitCount(others) < menu.stock[dish];
                    joyOfGroup[others | 1 << g] = can ? joyOfGroup[others] + last.wants[dish] : NONE;
                }
            }
        }

        int fewestBits() {
            int best = NONE;
            for (int bits = 0; bits < 1 << menu.dishes; bits++) {
                boolean fewer = best == NONE || Integer.bitCount(bits) < Integer.bitCount(best);
                if (fewer && pleasesAll(bits)) {
                    best = bits;
                }
            }
            return best;
        }

        private boolean pleasesAll(int bits) {
            for (int g = 0; g < party.size; g++) {
                boolean pleased = false;
                for (int d = 0; d < menu.dishes; d++) {
                    if ((bits >> d & 1) == 1 && party.seats[g].wants[d] >= WELL_LIKED) {
                        pleased = true;
                    }
                }
                if (!pleased) {
                    return false;
                }
            }
            return true;
        }

        /** Each urge is tried from 0 on: more need not sell more, since an early taker may put others off. */
        int leastUrge(int dish, int first, int times) {
            for (int much = 0; much <= MOST_URGE; much++) {
                setUp();
                trial.press(dish, much);
                goRound(first);
                if (trial.holders[dish] >= times) {
                    return much;
                }
            }
            return NONE;
        }

        int fittingLoaths(Log log) {
            int bits = 0;
            for (int loath = 0; loath < LOATHS; loath++) {
                if (wouldFit(log, loath)) {
                    bits |= 1 << loath;
                }
            }
            return bits;
        }

        private boolean wouldFit(Log log, int loath) {
            for (int e = 0; e < log.size; e++) {
                setUp();
                trial.loath = loath;
                goRound(log.first[e]);
                if (trial.has[log.guest[e]] != log.dish[e]) {
                    return false;
                }
            }
            return true;
        }

        /** The wants drawn are the guests' only meanwhile. */
        int joyOfEvenings(int times, int start) {
            seed = start;
            party.saveWants(wantsKept);
            int joy = 0;
            for (int i = 0; i < times; i++) {
                int first = draw(party.size);
                int dish = draw(menu.dishes);
                int guest = draw(party.size);
                party.seats[guest].wants[dish] = draw(10);
                joy += joyFrom(first, NONE);
            }
            party.loadWants(wantsKept);
            return joy;
        }

        private int draw(int below) {
            seed = (1103515245L * seed + 12345L) % 2147483648L;
            return below < 1 ? 0 : (int) (seed / 65536L % below);
        }
    }
}
