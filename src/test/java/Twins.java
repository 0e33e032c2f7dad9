import java.util.ArrayList;
import java.util.List;
import java.util.function.Supplier;
import java.util.function.ToIntFunction;

/**
 * Two objects laid alike, of which only one gets a call: if the call changed nothing, both answer alike from
 * then on. What is kept out of sight (the image, the page's letters, the dish that is urged) shows by calls that
 * change something, so these come last. A look takes 180 calls; a table must be laid in less than 250.
 */
final class Twins {
    private static final int MOST_CALLS = 512 - 250;

    private final OrdersInTurn x;
    private final List<String> calls = new ArrayList<>();
    private final List<Long> answers = new ArrayList<>();

    private Twins(OrdersInTurn x) {
        this.x = x;
        lookAtDishes();
        lookAtGuests();
        lookAtForecasts();
        changeWhatIsSeen();
        changeWhatIsKept();
        if (calls.size() > MOST_CALLS) {
            throw new IllegalStateException("a look takes " + calls.size() + " calls");
        }
    }

    /** A refused call answers the refusal, and nothing has changed. */
    static void refused(String call, Supplier<OrdersInTurn> laid, ToIntFunction<OrdersInTurn> made, int refusal) {
        OrdersInTurn tried = laid.get();
        Checks.due(call, made.applyAsInt(tried), refusal);
        Twins left = new Twins(tried);
        Twins right = new Twins(laid.get());
        for (int i = 0; i < left.calls.size(); i++) {
            Checks.due("behind the refused " + call + ", " + left.calls.get(i), left.answers.get(i), right.answers.get(i));
        }
    }

    /** Whether a call leaves something that the twin without it does not have. */
    static boolean differ(Supplier<OrdersInTurn> laid, ToIntFunction<OrdersInTurn> made) {
        OrdersInTurn tried = laid.get();
        made.applyAsInt(tried);
        return !new Twins(tried).answers.equals(new Twins(laid.get()).answers);
    }

    private void saw(String call, long answer) {
        calls.add(call);
        answers.add(answer);
    }

    private void lookAtDishes() {
        for (int what = 0; what < 9; what++) {
            saw("count(" + what + ")", x.count(what));
        }
        saw("fault()", x.fault());
        for (int d = 0; d < 6; d++) {
            for (int what = 0; what < 4; what++) {
                saw("dish(" + d + ", " + what + ")", x.dish(d, what));
            }
        }
    }

    private void lookAtGuests() {
        for (int g = 0; g < 5; g++) {
            for (int what = 0; what < 6; what++) {
                saw("about(" + g + ", " + what + ")", x.about(g, what));
            }
            saw("takes(" + g + ")", x.takes(g));
        }
    }

    private void lookAtForecasts() {
        for (int g = 0; g < 5; g++) {
            saw("minds(" + g + ")", x.minds(g));
            saw("begin(" + g + ", 0)", x.begin(g, 0));
            for (int first = 0; first < 5; first++) {
                saw("inTurn(" + first + ", " + g + ")", x.inTurn(first, g));
            }
        }
        for (int d = 0; d < 6; d++) {
            saw("urges(" + d + ", 0, 1)", x.urges(d, 0, 1));
        }
        for (int what = 0; what < 2; what++) {
            saw("begin(-1, " + what + ")", x.begin(-1, what));
            saw("fewest(" + what + ")", x.fewest(what));
            saw("fits(" + what + ")", x.fits(what));
            saw("evenings(3, 7, " + what + ")", x.evenings(3, 7, what));
        }
        saw("host()", x.host());
        saw("digest()", x.digest());
    }

    private void changeWhatIsSeen() {
        saw("letter('1')", x.letter('1'));
        saw("fault() then", x.fault());
        saw("urge(0, 0)", x.urge(0, 0));
        for (int g = 0; g < 5; g++) {
            for (int d = 0; d < 6; d++) {
                saw("want(" + g + ", " + d + ", 3)", x.want(g, d, 3));
            }
            saw("purse(" + g + ", 9)", x.purse(g, 9));
        }
        saw("order(0)", x.order(0));
        saw("clear()", x.clear());
        saw("evening(0, 0, 0)", x.evening(0, 0, 0));
        saw("forget()", x.forget());
        saw("atOnce(0)", x.atOnce(0));
        saw("count(8) then", x.count(8));
    }

    private void changeWhatIsKept() {
        saw("restore()", x.restore());
        saw("digest() then", x.digest());
        saw("urge(1, 1)", x.urge(1, 1));
        saw("guest(0, 1)", x.guest(0, 1));
        saw("restore() then", x.restore());
        saw("blank()", x.blank());
        Checks.write(x, "21,21;3");
        saw("card()", x.card());
        saw("guest(0, 1) then", x.guest(0, 1));
        saw("digest() of another card", x.digest());
    }
}
