import java.util.ArrayList;
import java.util.List;

/** What can be asked of an object without changing it, as texts: a call and its answer each. */
final class View {
    private final PorterDoors x;
    private final List<String> seen = new ArrayList<>();

    private View(PorterDoors x) {
        this.x = x;
    }

    static List<String> of(PorterDoors x) {
        View view = new View(x);
        view.all();
        return view.seen;
    }

    private void add(String call, long answer) {
        seen.add(call + " -> " + answer);
    }

    private void all() {
        for (int k = 0; k <= 9; k++) {
            add("has " + k, x.has(k));
        }
        add("fault", x.fault(0));
        add("place", x.fault(1));
        for (int d = 0; d < Math.min(4, x.has(0)); d++) {
            for (int what = 0; what <= 4; what++) {
                add("door " + d + ", " + what, x.door(d, what));
            }
        }
        for (int p = 0; p < Math.min(3, x.has(1)); p++) {
            add("letter 0 of " + p, x.letter(p, 0));
            add("tired " + p, x.porter(p, 0));
            add("walks " + p, x.porter(p, 2));
            add("order " + p, x.order(p));
            add("walked " + p, x.walked(p));
        }
        for (int k = 0; k < Math.min(4, x.has(7)); k++) {
            add("kept night " + k, x.kept(k, 0));
            add("kept porter " + k, x.kept(k, 1));
            add("kept doors " + k, x.kept(k, 2));
        }
        for (int n = 0; n <= 60; n = 2 * n + 1) {
            add("later " + n, x.later(n));
            add("cold " + n, x.cold(n));
        }
        sets();
        for (int k = 0; x.octet(k) != PorterDoors.NONE && k < 20; k++) {
            add("octet " + k, x.octet(k));
        }
    }

    private void sets() {
        add("back", x.back());
        add("row", x.row());
        add("changes 1", x.changes(1));
        add("alike", x.alike());
        add("alone 0", x.alone(0));
        add("widest", x.widest(0));
        add("rest", x.rest(1, 0));
        add("cold then", x.rest(1, 1));
        add("odds 0", x.odds(0));
        add("fits", x.fits(-1));
        add("first fit", x.fits(0));
        add("tells", x.tells(0));
        add("left", x.tells(1));
    }
}
