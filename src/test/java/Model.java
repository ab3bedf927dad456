import java.util.ArrayDeque;
import java.util.ArrayList;
import java.util.Comparator;
import java.util.Deque;
import java.util.HashMap;
import java.util.HashSet;
import java.util.List;
import java.util.Map;
import java.util.Set;
import java.util.stream.Collectors;
import java.util.stream.IntStream;

/**
 * The document said once more, slowly and by other means (trees of functions, lists, exceptions),
 * so that ModelTest can hold the class against it. Each public method is one of the face.
 */
public final class Model {
    private static final Set<String> OWN = Set.of("doors", "porter", "turns", "paint", "open",
            "stiff", "walks", "cold", "ill", "number", "colour", "turned", "who", "night", "opened",
            "tired", "jammed", "by", "near", "or", "and", "not", "all", "min", "max");

    private static final class Fault extends RuntimeException {
        private static final long serialVersionUID = 1L;
        final int what;
        final int place;

        Fault(int what, int place) {
            this.what = what;
            this.place = place;
        }
    }

    /** What words are worth where a sum stands. */
    private interface Given {
        long of(String word);

        default long by(long porter) {
            throw new IllegalStateException();
        }

        default long near(long far) {
            throw new IllegalStateException();
        }
    }

    private interface Sum {
        long of(Given given);
    }

    private interface Test {
        boolean of(Given given);
    }

    /** A text read byte by byte. */
    private static final class Text {
        final String text;
        int at = 0;
        int opened = 0;
        Set<String> words = Set.of();

        Text(String text) {
            this.text = text;
        }

        boolean isEnd() {
            int k = at;
            while (k < text.length() && (text.charAt(k) == 32 || text.charAt(k) == 10)) {
                k++;
            }
            return k == text.length();
        }

        /** Over blanks, to the first byte of what comes. */
        int come() {
            while (at < text.length() && (text.charAt(at) == 32 || text.charAt(at) == 10)) {
                at++;
            }
            return at;
        }

        private String run(String sort) {
            come();
            boolean tight = at > 0 && (text.substring(at - 1, at).matches("[a-z0-9]"));
            int k = at;
            while (k < text.length() && text.substring(k, k + 1).matches(sort)) {
                k++;
            }
            return tight ? "" : text.substring(at, k);
        }

        String peek() {
            return run("[a-z]");
        }

        String digits() {
            return run("[0-9]");
        }

        boolean takes(String word) {
            if (!peek().equals(word)) {
                return false;
            }
            at += word.length();
            return true;
        }

        boolean takes(char sign) {
            come();
            if (at >= text.length() || text.charAt(at) != sign) {
                return false;
            }
            at++;
            return true;
        }

        void needs(boolean holds) {
            if (!holds) {
                throw new Fault(1, come());
            }
        }

        int anyNumber() {
            String digits = digits();
            needs(!digits.isEmpty());
            if (digits.length() > 4) {
                throw new Fault(1, at + 4);
            }
            at += digits.length();
            return Integer.parseInt(digits);
        }

        int number(int low, int high) {
            int place = come();
            int n = anyNumber();
            if (n < low || n > high) {
                throw new Fault(2, place);
            }
            return n;
        }

        /** One more opens at this place. */
        void opens(int place) {
            if (opened == 6) {
                throw new Fault(4, place);
            }
            opened++;
        }

        Test test(Set<String> allowed) {
            words = allowed;
            return test();
        }

        Sum sum(Set<String> allowed) {
            words = allowed;
            return sum();
        }

        Test test() {
            Test first = both();
            while (takes("or")) {
                Test left = first;
                Test right = both();
                first = g -> left.of(g) | right.of(g);
            }
            return first;
        }

        Test both() {
            Test first = fact();
            while (takes("and")) {
                Test left = first;
                Test right = fact();
                first = g -> left.of(g) & right.of(g);
            }
            return first;
        }

        Test fact() {
            int place = come();
            if (takes("not")) {
                opens(place);
                Test inner = fact();
                opened--;
                return g -> !inner.of(g);
            }
            if (takes('[')) {
                opens(place);
                Test inner = test();
                needs(takes(']'));
                opened--;
                return inner;
            }
            if (takes("all")) {
                return g -> true;
            }
            Sum left = sum();
            boolean less = takes('<');
            boolean more = !less && takes('>');
            needs(less || more || takes('='));
            Sum right = sum();
            return g -> less ? left.of(g) < right.of(g)
                    : more ? left.of(g) > right.of(g) : left.of(g) == right.of(g);
        }

        static long held(long worth) {
            return worth > 1_000_000 ? 1_000_000 : worth < -1_000_000 ? -1_000_000 : worth;
        }

        Sum sum() {
            Sum first = product();
            while (true) {
                Sum left = first;
                if (takes('+')) {
                    Sum right = product();
                    first = g -> held(left.of(g) + right.of(g));
                } else if (takes('-')) {
                    Sum right = product();
                    first = g -> held(left.of(g) - right.of(g));
                } else {
                    return first;
                }
            }
        }

        Sum product() {
            Sum first = part();
            while (true) {
                Sum left = first;
                if (takes('*')) {
                    Sum right = part();
                    first = g -> held(left.of(g) * right.of(g));
                } else if (takes('/')) {
                    Sum right = part();
                    first = g -> right.of(g) == 0 ? 0
                            : (long) Math.floor((double) left.of(g) / right.of(g));
                } else {
                    return first;
                }
            }
        }

        Sum part() {
            int place = come();
            if (!digits().isEmpty()) {
                long n = anyNumber();
                return g -> n;
            }
            if (takes('(')) {
                opens(place);
                Sum inner = sum();
                needs(takes(')'));
                opened--;
                return inner;
            }
            String word = peek();
            if (word.equals("min") || word.equals("max")) {
                takes(word);
                int bracket = come();
                needs(takes('('));
                opens(bracket);
                Sum one = sum();
                needs(takes(','));
                Sum two = sum();
                needs(takes(')'));
                opened--;
                return word.equals("min") ? g -> Math.min(one.of(g), two.of(g))
                        : g -> Math.max(one.of(g), two.of(g));
            }
            needs(words.contains(word));
            takes(word);
            if (word.equals("by") || word.equals("near")) {
                opens(place);
                Sum inner = part();
                opened--;
                return word.equals("by") ? g -> g.by(inner.of(g)) : g -> g.near(inner.of(g));
            }
            return g -> g.of(word);
        }
    }

    private static final Set<String> IN_TURNS = Set.of("night", "number", "colour");
    private static final Set<String> IN_COLD = Set.of("night", "number", "colour", "open", "turned");
    private static final Set<String> IN_WALKS = Set.of("night", "who", "opened", "tired");
    private static final Set<String> IN_ASK = Set.of("night", "number", "colour", "open", "turned",
            "jammed", "by", "near");

    private static final class Corridor {
        int statements = 0;
        int doors = 0;
        int stiff = 0;
        int ill = 0;
        final List<String> names = new ArrayList<>();
        final List<Test> turns = new ArrayList<>();
        final Map<Integer, Integer> paint = new HashMap<>();
        final Set<Integer> open = new HashSet<>();
        Test walks = null;
        Sum cold = null;

        Corridor() {
        }

        Corridor(String string) {
            Text t = new Text(string);
            while (statements == 0 || !t.isEnd()) {
                int place = t.come();
                if (statements == 60) {
                    throw new Fault(5, place);
                }
                String word = t.peek();
                t.needs(word.equals("doors") == (statements == 0));
                t.needs(Set.of("doors", "porter", "paint", "open", "stiff", "walks", "cold", "ill")
                        .contains(word));
                t.takes(word);
                if (word.equals("porter") && names.size() == 10
                        || word.equals("walks") && walks != null
                        || word.equals("cold") && cold != null) {
                    throw new Fault(5, place);
                }
                statement(word, t);
                t.needs(t.takes(';'));
                statements++;
            }
        }

        private void statement(String word, Text t) {
            switch (word) {
                case "doors" -> doors = t.number(2, 24);
                case "paint" -> {
                    int door = t.number(0, doors - 1);
                    paint.put(door, t.number(0, 9));
                }
                case "open" -> {
                    int place = t.come();
                    if (!open.add(t.number(0, doors - 1))) {
                        throw new Fault(2, place);
                    }
                }
                case "stiff" -> stiff = t.number(0, 99);
                case "ill" -> ill = t.number(0, 100);
                case "walks" -> walks = t.test(IN_WALKS);
                case "cold" -> cold = t.sum(IN_COLD);
                default -> porter(t);
            }
        }

        private void porter(Text t) {
            int place = t.come();
            String name = t.peek();
            t.needs(!name.isEmpty() && !OWN.contains(name));
            if (name.length() > 6) {
                throw new Fault(1, place + 6);
            }
            if (names.contains(name)) {
                throw new Fault(3, place);
            }
            t.takes(name);
            t.needs(t.takes("turns"));
            names.add(name);
            turns.add(t.test(IN_TURNS));
        }
    }

    private static final class Hall {
        int night = 0;
        int cold = 0;
        boolean[] open;
        int[] turned;
        int[] paint;
        int[] tired;
        List<int[]> kept = new ArrayList<>();

        Hall(Corridor c) {
            open = new boolean[c.doors];
            turned = new int[c.doors];
            paint = new int[c.doors];
            tired = new int[c.names.size()];
            c.open.forEach(d -> open[d] = true);
            c.paint.forEach((d, colour) -> paint[d] = colour);
        }

        Hall(Hall other) {
            night = other.night;
            cold = other.cold;
            open = other.open.clone();
            turned = other.turned.clone();
            paint = other.paint.clone();
            tired = other.tired.clone();
            kept = new ArrayList<>(other.kept);
        }

        int bits() {
            return IntStream.range(0, open.length).map(d -> open[d] ? 1 << d : 0).sum();
        }
    }

    private String tape = "";
    private Corridor told = new Corridor();
    private Hall hall = new Hall(told);
    private final Deque<Hall> past = new ArrayDeque<>();
    private List<int[]> seen = new ArrayList<>();
    private int[] image = new int[0];
    private long seed = 1;
    private int fault = 0;
    private int place = -1;
    private final int[] refused = new int[6];

    private int no(int kind) {
        refused[kind]++;
        return -1;
    }

    private String taken() {
        String text = tape;
        tape = "";
        return text;
    }

    private boolean isTold() {
        return told.doors > 0;
    }

    private int porters() {
        return told.names.size();
    }

    private boolean isDoor(int d) {
        return d >= 0 && d < told.doors;
    }

    private boolean isPorter(int p) {
        return p >= 0 && p < porters();
    }

    private boolean jammed(Hall h, int d) {
        return told.stiff > 0 && h.turned[d] >= told.stiff;
    }

    private Given at(Hall h, int d) {
        return new Given() {
            @Override
            public long of(String word) {
                return switch (word) {
                    case "night" -> h.night;
                    case "number" -> d;
                    case "colour" -> h.paint[d];
                    case "open" -> h.open[d] ? 1 : 0;
                    case "turned" -> h.turned[d];
                    case "jammed" -> jammed(h, d) ? 1 : 0;
                    default -> throw new IllegalStateException(word);
                };
            }

            @Override
            public long by(long p) {
                return p >= 0 && p < porters() && ordered(h, (int) p, d) ? 1 : 0;
            }

            @Override
            public long near(long far) {
                long to = d + far;
                return to >= 0 && to < told.doors && h.open[(int) to] ? 1 : 0;
            }
        };
    }

    private boolean ordered(Hall h, int p, int d) {
        return told.turns.get(p).of(at(h, d));
    }

    private int orderBits(int p) {
        return IntStream.range(0, told.doors).filter(d -> ordered(hall, p, d)).map(d -> 1 << d).sum();
    }

    private boolean willing(Hall h, int p) {
        Given given = word -> switch (word) {
            case "night" -> h.night;
            case "who" -> p;
            case "opened" -> Integer.bitCount(h.bits());
            case "tired" -> h.tired[p];
            default -> throw new IllegalStateException(word);
        };
        return told.walks == null || told.walks.of(given);
    }

    private void turned(Hall h, int d) {
        h.open[d] = !h.open[d];
        h.turned[d] = Math.min(99, h.turned[d] + 1);
    }

    private int walk(Hall h, int p) {
        int count = 0;
        for (int d = 0; d < told.doors; d++) {
            if (ordered(h, p, d) && !jammed(h, d)) {
                turned(h, d);
                count++;
            }
        }
        return count;
    }

    private int pass(Hall h, int away) {
        int walks = 0;
        for (int p = 0; p < porters(); p++) {
            if (p != away && willing(h, p)) {
                h.kept.add(new int[] {h.night, p, walk(h, p)});
                h.tired[p] = Math.min(99, h.tired[p] + 1);
                walks++;
            } else {
                h.tired[p] = 0;
            }
        }
        for (int d = 0; d < told.doors; d++) {
            long worth = told.cold == null ? (h.open[d] ? 1 : 0) : told.cold.of(at(h, d));
            h.cold = (int) Math.min(999999, h.cold + Math.max(0, Math.min(99, worth)));
        }
        h.night = Math.min(999, h.night + 1);
        return walks;
    }

    private Hall behind(int n, int away) {
        Hall h = new Hall(hall);
        for (int k = 0; k < n; k++) {
            pass(h, away);
        }
        return h;
    }

    private int draw(int m) {
        seed = (1103515245L * seed + 12345) % (1L << 31);
        return (int) (seed / 64 % m);
    }

    private void act() {
        past.addLast(new Hall(hall));
        if (past.size() > 20) {
            past.removeFirst();
        }
    }

    public int feed(int a, int b, int c, int d, int e) {
        if (tape.length() + 20 > 1600) {
            return no(0);
        }
        for (int n : new int[] {a, b, c, d, e}) {
            tape += "" + (char) (n >>> 24) + (char) (n >>> 16 & 255) + (char) (n >>> 8 & 255)
                    + (char) (n & 255);
        }
        return tape.length();
    }

    public boolean end(int n) {
        if (n < 0 || n > tape.length()) {
            return no(0) > 0;
        }
        tape = tape.substring(0, n);
        return true;
    }

    public int corridor() {
        try {
            told = new Corridor(taken());
        } catch (Fault f) {
            fault = f.what;
            place = f.place;
            return no(1);
        }
        fault = 0;
        place = -1;
        hall = new Hall(told);
        past.clear();
        seen.clear();
        return told.statements;
    }

    public int fault(int what) {
        return what == 0 ? fault : what == 1 ? place : -1;
    }

    public int has(int what) {
        return switch (what) {
            case 0 -> told.doors;
            case 1 -> porters();
            case 2 -> hall.night;
            case 3 -> Integer.bitCount(hall.bits());
            case 4 -> (int) IntStream.range(0, told.doors).filter(d -> jammed(hall, d)).count();
            case 5 -> hall.cold;
            case 6 -> told.stiff;
            case 7 -> Math.min(40, hall.kept.size());
            case 8 -> seen.size();
            case 9 -> past.size();
            default -> -1;
        };
    }

    public int letter(int porter, int k) {
        if (!isPorter(porter) || k < 0 || k > 5) {
            return -1;
        }
        String name = told.names.get(porter);
        return k < name.length() ? name.charAt(k) - 'a' + 1 : 0;
    }

    public int door(int door, int what) {
        if (!isDoor(door)) {
            return -1;
        }
        return switch (what) {
            case 0 -> hall.open[door] ? 1 : 0;
            case 1 -> hall.paint[door];
            case 2 -> hall.turned[door];
            case 3 -> jammed(hall, door) ? 1 : 0;
            case 4 -> (int) IntStream.range(0, porters()).filter(p -> ordered(hall, p, door)).count();
            default -> -1;
        };
    }

    public int porter(int porter, int what) {
        if (!isPorter(porter)) {
            return -1;
        }
        return switch (what) {
            case 0 -> hall.tired[porter];
            case 1 -> Integer.bitCount(orderBits(porter));
            case 2 -> willing(hall, porter) ? 1 : 0;
            default -> -1;
        };
    }

    public int order(int porter) {
        return isPorter(porter) ? orderBits(porter) : -1;
    }

    public int kept(int k, int what) {
        int all = hall.kept.size();
        int told40 = Math.min(40, all);
        if (k < 0 || k >= told40 || what < 0 || what > 2) {
            return -1;
        }
        return hall.kept.get(all - told40 + k)[what];
    }

    public int later(int n) {
        return !isTold() || n < 0 || n > 60 || hall.night + n > 999 ? -1 : behind(n, -1).bits();
    }

    public int cold(int n) {
        return !isTold() || n < 0 || n > 60 || hall.night + n > 999 ? -1 : behind(n, -1).cold;
    }

    public int back() {
        if (!isTold()) {
            return -1;
        }
        Hall h = new Hall(hall);
        for (int n = 1; n <= 60 && hall.night + n <= 999; n++) {
            pass(h, -1);
            if (h.bits() == hall.bits()) {
                return n;
            }
        }
        return -1;
    }

    public int row() {
        if (!isTold()) {
            return -1;
        }
        String doors = "";
        for (boolean open : hall.open) {
            doors += open ? "1" : "0";
        }
        int longest = 0;
        while (doors.contains("1".repeat(longest + 1))) {
            longest++;
        }
        return longest;
    }

    private int changed(int set) {
        int bits = 0;
        for (int p = 0; p < porters(); p++) {
            if ((set >> p & 1) == 1) {
                bits ^= orders[p];
            }
        }
        return bits;
    }

    // the orders as they are now, for the calls about sets
    private int[] orders = new int[0];

    private List<Integer> sets() {
        orders = IntStream.range(0, porters()).map(this::orderBits).toArray();
        return IntStream.range(0, 1 << porters()).boxed().collect(Collectors.toList());
    }

    private List<Integer> fewestFirst() {
        List<Integer> sets = sets();
        sets.sort(Comparator.<Integer>comparingInt(Integer::bitCount).thenComparingInt(s -> s));
        return sets;
    }

    public int changes(int set) {
        return isTold() && sets().contains(set) ? changed(set) : -1;
    }

    public int sends(int asked, int open) {
        if (!isTold() || asked < 0 || asked >= 1 << told.doors || (open | asked) != asked) {
            return -1;
        }
        for (int set : fewestFirst()) {
            if (((hall.bits() ^ changed(set)) & asked) == open) {
                return set;
            }
        }
        return -1;
    }

    public int alike() {
        return isTold() ? (int) sets().stream().filter(s -> changed(s) == 0).count() : -1;
    }

    public int alone(int door) {
        if (isDoor(door)) {
            for (int set : fewestFirst()) {
                if (changed(set) == 1 << door) {
                    return set;
                }
            }
        }
        return -1;
    }

    public int widest(int what) {
        if (!isTold() || what < 0 || what > 1) {
            return -1;
        }
        int best = -1;
        int most = -1;
        for (int set : fewestFirst()) {
            int open = Integer.bitCount(hall.bits() ^ changed(set));
            if (open > most) {
                most = open;
                best = set;
            }
        }
        return what == 0 ? best : most;
    }

    public int rest(int n, int what) {
        if (porters() == 0 || n < 1 || n > 40 || hall.night + n > 999 || what < 0 || what > 1) {
            return -1;
        }
        int least = IntStream.range(0, porters()).map(p -> behind(n, p).cold).min().getAsInt();
        int best = 0;
        while (behind(n, best).cold != least) {
            best++;
        }
        return what == 0 ? best : least;
    }

    public int odds(int door) {
        if (porters() == 0 || door != -1 && !isDoor(door) || hall.night == 999) {
            return -1;
        }
        int rows = 0;
        boolean healthy = door != -1 && behind(1, -1).open[door];
        for (int p = 0; p < porters(); p++) {
            boolean without = door != -1 && behind(1, p).open[door];
            for (int number = 0; number < 100; number++) {
                rows += door == -1 || (number < told.ill ? without : healthy) ? 1 : 0;
            }
        }
        return rows;
    }

    public int see() {
        String t = taken();
        List<int[]> rows = new ArrayList<>();
        for (int k = 0; k + 1 < t.length(); k += 2) {
            rows.add(new int[] {t.charAt(k), t.charAt(k + 1)});
        }
        if (t.length() % 2 != 0 || rows.isEmpty() || rows.size() > 24
                || !rows.stream().allMatch(r -> isDoor(r[0]) && r[1] < 2)) {
            return no(1);
        }
        seen = rows;
        return rows.size();
    }

    private List<Integer> fitting() {
        return sets().stream()
                .filter(s -> seen.stream().allMatch(r -> isOpenBehind(s, r[0]) == (r[1] == 1)))
                .collect(Collectors.toList());
    }

    private boolean isOpenBehind(int set, int door) {
        return ((hall.bits() ^ changed(set)) >> door & 1) == 1;
    }

    public int fits(int k) {
        if (!isTold()) {
            return -1;
        }
        List<Integer> fits = fitting();
        return k == -1 ? fits.size() : k >= 0 && k < fits.size() ? fits.get(k) : -1;
    }

    public int walked(int porter) {
        List<Integer> fits = isTold() ? fitting() : List.of();
        if (fits.isEmpty() || !isPorter(porter)) {
            return -1;
        }
        boolean all = fits.stream().allMatch(s -> (s >> porter & 1) == 1);
        boolean none = fits.stream().noneMatch(s -> (s >> porter & 1) == 1);
        return all ? 1 : none ? 2 : 0;
    }

    public int tells(int what) {
        List<Integer> fits = isTold() ? fitting() : List.of();
        if (fits.isEmpty() || what < 0 || what > 1) {
            return -1;
        }
        int best = -1;
        int least = Integer.MAX_VALUE;
        for (int d = 0; d < told.doors; d++) {
            int door = d;
            int open = (int) fits.stream().filter(s -> isOpenBehind(s, door)).count();
            int left = Math.max(open, fits.size() - open);
            if (left < least) {
                least = left;
                best = d;
            }
        }
        return what == 0 ? best : least;
    }

    public int send(int porter) {
        if (!isPorter(porter)) {
            return no(2);
        }
        act();
        return walk(hall, porter);
    }

    public boolean turn(int door) {
        if (!isDoor(door) || jammed(hall, door)) {
            return no(2) > 0;
        }
        act();
        turned(hall, door);
        return true;
    }

    public boolean oil(int door) {
        if (!isDoor(door) || hall.turned[door] == 0) {
            return no(2) > 0;
        }
        act();
        hall.turned[door] = 0;
        return true;
    }

    public boolean paint(int door, int colour) {
        if (!isDoor(door) || colour < 0 || colour > 9 || hall.paint[door] == colour) {
            return no(2) > 0;
        }
        act();
        hall.paint[door] = colour;
        return true;
    }

    public int nights(int n) {
        if (!isTold() || n < 1 || n > 100 || hall.night + n > 999) {
            return no(3);
        }
        act();
        int walks = 0;
        for (int k = 0; k < n; k++) {
            walks += pass(hall, -1);
        }
        return walks;
    }

    public int chance(int n) {
        if (!isTold() || n < 1 || n > 100 || hall.night + n > 999) {
            return no(3);
        }
        act();
        int ills = 0;
        for (int k = 0; k < n; k++) {
            int away = -1;
            if (draw(100) < told.ill && porters() > 0) {
                away = draw(porters());
                ills++;
            }
            pass(hall, away);
        }
        return ills;
    }

    public boolean undo() {
        if (past.isEmpty()) {
            return no(4) > 0;
        }
        hall = past.removeLast();
        return true;
    }

    public boolean seed(int seed) {
        if (seed < 0) {
            return no(5) > 0;
        }
        this.seed = seed;
        return true;
    }

    public long ask() {
        Text t = new Text(taken());
        if (!isTold()) {
            return PorterDoors.NOTHING;
        }
        fault = 0;
        place = -1;
        try {
            long answer = answer(t);
            return answer;
        } catch (Fault f) {
            fault = f.what;
            place = f.place;
            return PorterDoors.NOTHING;
        }
    }

    private long answer(Text t) {
        String word = t.peek();
        t.needs(Set.of("first", "last", "often", "total", "most", "least").contains(word));
        t.takes(word);
        if (Set.of("first", "last", "often").contains(word)) {
            Test test = t.test(IN_ASK);
            t.needs(t.isEnd());
            int[] held = IntStream.range(0, told.doors).filter(d -> test.of(at(hall, d))).toArray();
            return word.equals("often") ? held.length : held.length == 0 ? -1
                    : word.equals("first") ? held[0] : held[held.length - 1];
        }
        Sum sum = t.sum(IN_ASK);
        t.needs(t.isEnd());
        var all = IntStream.range(0, told.doors).mapToLong(d -> sum.of(at(hall, d)));
        return word.equals("total") ? all.sum()
                : word.equals("most") ? all.max().getAsLong() : all.min().getAsLong();
    }

    private static int check(List<Integer> bytes) {
        int c = 193;
        for (int b : bytes) {
            c = (3 * c + b) % 251;
        }
        return c;
    }

    public int image() {
        List<Integer> bytes = new ArrayList<>(List.of(hall.night / 256, hall.night % 256,
                hall.cold / 65536, hall.cold / 256 % 256, hall.cold % 256));
        for (int d = 0; d < told.doors; d++) {
            bytes.addAll(List.of(hall.open[d] ? 1 : 0, hall.turned[d], hall.paint[d]));
        }
        for (int tired : hall.tired) {
            bytes.add(tired);
        }
        bytes.add(check(bytes));
        image = bytes.stream().mapToInt(b -> b).toArray();
        return image.length;
    }

    public int octet(int k) {
        return k >= 0 && k < image.length ? image[k] : -1;
    }

    public boolean on() {
        List<Integer> bytes = taken().chars().boxed().collect(Collectors.toList());
        int doors = told.doors;
        if (!isTold() || bytes.size() != 5 + 3 * doors + porters() + 1
                || check(bytes.subList(0, bytes.size() - 1)) != bytes.get(bytes.size() - 1)) {
            return no(5) > 0;
        }
        Hall h = new Hall(told);
        h.night = bytes.get(0) * 256 + bytes.get(1);
        h.cold = (bytes.get(2) * 256 + bytes.get(3)) * 256 + bytes.get(4);
        boolean fits = h.night <= 999 && h.cold <= 999999;
        for (int d = 0; d < doors; d++) {
            fits &= bytes.get(5 + 3 * d) <= 1;
            h.open[d] = bytes.get(5 + 3 * d) == 1;
            h.turned[d] = bytes.get(6 + 3 * d);
            h.paint[d] = bytes.get(7 + 3 * d);
            fits &= h.turned[d] <= 99 && h.paint[d] <= 9;
        }
        for (int p = 0; p < porters(); p++) {
            h.tired[p] = bytes.get(5 + 3 * doors + p);
            fits &= h.tired[p] <= 99;
        }
        if (!fits) {
            return no(5) > 0;
        }
        hall = h;
        past.clear();
        return true;
    }

    public int status(int what) {
        return what >= 0 && what < 6 ? refused[what] : -1;
    }
}
