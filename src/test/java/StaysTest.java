import java.util.ArrayList;
import java.util.Arrays;
import java.util.List;
import java.util.Set;
import java.util.TreeSet;
import java.util.function.Function;
import java.util.function.Supplier;
import java.util.function.ToLongFunction;

/**
 * "Nothing is promised beyond the ... state changes described": each call, taken or refused, leaves
 * all that the document does not say it changes. An object on which the call is made is held, aspect
 * by aspect, against a like one without it.
 */
public final class StaysTest {
    private static final Check CHECK = new Check("StaysTest");
    private static final int NONE = PorterDoors.NONE;
    private static final String QUESTION = "total number*number+9";
    private static final String RICH = "doors 4;porter ann turns number<2 or night=3;porter b turns colour=2;open 1;"
            + "paint 2 2;stiff 5;ill 7;walks tired<2 or who=0;cold open*7+turned+night;";
    private static final String STEADY = "doors 4;porter c turns number<2;porter dd turns number>1;open 1;ill 40;";
    private static final int[] IMAGE = Check.withCheck(0, 2, 0, 1, 7, 1, 3, 2, 0, 0, 0, 1, 4, 9, 0, 2, 2, 1, 5);
    private static final Set<String> HALL = Set.of("night", "cold", "open", "turned", "paint", "tired", "kept");

    /** What an object is seen to be in one respect: asked last, for asking may use it up. */
    private record Aspect(String name, Function<PorterDoors, String> seen) {
    }

    private static final List<Aspect> ASPECTS = List.of(
            new Aspect("tape", StaysTest::tape),
            new Aspect("fault", x -> x.fault(0) + " at " + x.fault(1)),
            new Aspect("corridor", StaysTest::corridor),
            new Aspect("night", x -> "" + x.has(2)),
            new Aspect("cold", x -> "" + x.has(5)),
            new Aspect("open", x -> x.later(0) + " " + x.has(3)),
            new Aspect("turned", x -> doors(x, 2)),
            new Aspect("paint", x -> doors(x, 1)),
            new Aspect("tired", x -> x.porter(0, 0) + " " + x.porter(1, 0)),
            new Aspect("kept", StaysTest::kept),
            new Aspect("seen", StaysTest::seen),
            new Aspect("acts", StaysTest::acts),
            new Aspect("seed", StaysTest::seed),
            new Aspect("image", StaysTest::image),
            refused(0), refused(1), refused(2), refused(3), refused(4), refused(5));

    public static void main(String[] args) {
        for (String maker : new String[] {"bare", "rich", "no fits", "one fit", "steady", "last night"}) {
            asking(maker, made(maker));
        }
        taped();
        texts();
        byHand();
        nights();
        undone();
        seeds();
        images();
        CHECK.finish();
    }

    private static Aspect refused(int kind) {
        return new Aspect("refused " + kind, x -> "" + x.status(kind));
    }

    private static String tape(PorterDoors x) {
        int length = x.feed(0x20202020, 0x20202020, 0x20202020, 0x20202020, 0x20202020);
        String answer = x.has(0) > 0 ? "" + x.ask() : x.corridor() + ", open " + x.later(0);
        return length + ": " + answer + ", " + x.fault(0) + " at " + x.fault(1);
    }

    /** What is told by the text alone: all becomes like one image ahead of it. */
    private static String corridor(PorterDoors x) {
        String all = x.has(0) + " " + x.has(1) + " " + x.has(6);
        for (int k = 0; k < 12; k++) {
            all += " " + x.letter(k / 6, k % 6);
        }
        Check.tape(x, IMAGE);
        all += " " + x.on();
        for (int k = 0; k <= 5; k++) {
            all += " " + x.order(k) + " " + x.odds(k) + " " + x.later(k) + " " + x.cold(k) + " " + x.porter(k, 2);
        }
        return all;
    }

    private static String doors(PorterDoors x, int what) {
        String all = "";
        for (int d = 0; d < x.has(0); d++) {
            all += x.door(d, what) + " ";
        }
        return all;
    }

    private static String kept(PorterDoors x) {
        String all = x.has(7) + ":";
        for (int k = 0; k < Math.min(9, x.has(7)); k++) {
            all += " " + x.kept(k, 0) + "/" + x.kept(k, 1) + "/" + x.kept(k, 2);
        }
        return all;
    }

    private static String seen(PorterDoors x) {
        String all = x.has(8) + ":";
        Check.tape(x, IMAGE);
        x.on();
        for (int k = -1; k < 4; k++) {
            all += " " + x.fits(k);
        }
        return all;
    }

    private static String acts(PorterDoors x) {
        StringBuilder all = new StringBuilder(x.has(9) + ":");
        for (int k = x.has(9); k >= 0; k--) {
            for (Aspect aspect : ASPECTS) {
                if (k < x.has(9) && HALL.contains(aspect.name)) {
                    all.append(' ').append(aspect.seen.apply(x)).append(';');
                }
            }
            all.append(x.undo());
        }
        return all.toString();
    }

    private static String seed(PorterDoors x) {
        Check.corridor(x, "doors 2;porter a turns all;ill 50;");
        String all = "";
        for (int k = 0; k < 30; k++) {
            all += x.chance(1);
        }
        return all;
    }

    private static String image(PorterDoors x) {
        String all = "";
        for (int k = 0; x.octet(k) != NONE; k++) {
            all += x.octet(k) + " ";
        }
        return all;
    }

    /** Without a corridor; else of 4 doors, 2 porters. Nothing in it is as in a new one. */
    private static Supplier<PorterDoors> made(String maker) {
        return switch (maker) {
            case "bare" -> StaysTest::bare;
            case "no fits" -> () -> moved(RICH, 0, 0, 1, 0, 1, 1);
            case "one fit" -> () -> moved(STEADY, 0, 1, 2, 0);
            case "steady" -> () -> moved(STEADY, 1, 0);
            case "last night" -> StaysTest::lastNight;
            default -> () -> moved(RICH, 3, 0, 2, 1);
        };
    }

    private static PorterDoors bare() {
        PorterDoors x = new PorterDoors();
        x.seed(4711);
        x.image();
        refuse(x);
        Check.corridor(x, "doors 1;");
        Check.tape(x, "doors 5;open 2;");
        return x;
    }

    private static PorterDoors moved(String text, int... rows) {
        PorterDoors x = Check.told(text);
        x.seed(4711);
        refuse(x);
        x.nights(2);
        x.chance(2);
        Check.see(x, rows);
        x.turn(3);
        x.turn(0);
        x.paint(0, 2);
        x.image();
        x.send(1);
        x.oil(1);
        Check.ask(x, "total ?");
        x.seed(815);
        Check.tape(x, QUESTION);
        return x;
    }

    private static PorterDoors lastNight() {
        PorterDoors x = moved(RICH, 3, 0, 2, 1);
        int[] bytes = IMAGE.clone();
        bytes[0] = 3;
        bytes[1] = 230;
        Check.tape(x, Check.withCheck(Arrays.copyOf(bytes, bytes.length - 1)));
        x.on();
        x.nights(1);
        x.turn(2);
        Check.tape(x, QUESTION);
        return x;
    }

    /** One of each kind is refused, of the first ones more. */
    private static void refuse(PorterDoors x) {
        x.end(-1);
        x.end(-1);
        x.see();
        x.send(7);
        x.nights(0);
        x.undo();
        x.seed(-1);
    }

    /** The call changes these aspects at the most. */
    private static void stays(String name, Supplier<PorterDoors> made, ToLongFunction<PorterDoors> call,
            String... changed) {
        Set<String> may = new TreeSet<>();
        for (String aspect : changed) {
            if (aspect.equals("hall")) {
                may.addAll(HALL);
            } else {
                may.add(aspect);
            }
        }
        for (Aspect aspect : ASPECTS) {
            if (!may.remove(aspect.name)) {
                PorterDoors x = made.get();
                call.applyAsLong(x);
                String got = aspect.seen.apply(x);
                String due = aspect.seen.apply(made.get());
                CHECK.due(name + " leaves: " + aspect.name + ", not " + got + " for " + due, got.equals(due), true);
            }
        }
        CHECK.due(name + ", aspects that there are not " + may, may.size(), 0);
    }

    private static void bytes(String name, Supplier<PorterDoors> made, int[] bytes, ToLongFunction<PorterDoors> call,
            String... changed) {
        stays(name, made, x -> {
            Check.tape(x, bytes);
            return call.applyAsLong(x);
        }, changed);
    }

    private static void text(String name, Supplier<PorterDoors> made, String text, ToLongFunction<PorterDoors> call,
            String... changed) {
        stays(name + " " + text, made, x -> {
            Check.tape(x, text);
            return call.applyAsLong(x);
        }, changed);
    }

    /** Whatever is asked of an object, answered or not, leaves it as it is. */
    private static void asking(String maker, Supplier<PorterDoors> made) {
        List<ToLongFunction<PorterDoors>> calls = new ArrayList<>();
        for (int k : new int[] {-2, -1, 0, 1, 2, 3, 4, 5, 6, 7, 8, 9, 10, 40, 41, 60, 61}) {
            calls.add(x -> x.fault(k));
            calls.add(x -> x.has(k));
            calls.add(x -> x.letter(1, k));
            calls.add(x -> x.letter(k, 0));
            calls.add(x -> x.door(1, k));
            calls.add(x -> x.door(k, 0));
            calls.add(x -> x.porter(1, k));
            calls.add(x -> x.porter(k, 2));
            calls.add(x -> x.order(k));
            calls.add(x -> x.kept(1, k));
            calls.add(x -> x.kept(k, 0));
            calls.add(x -> x.later(k));
            calls.add(x -> x.cold(k));
            calls.add(x -> x.changes(k));
            calls.add(x -> x.sends(k, k & 5));
            calls.add(x -> x.sends(5, k));
            calls.add(x -> x.alone(k));
            calls.add(x -> x.widest(k));
            calls.add(x -> x.rest(k, 0));
            calls.add(x -> x.rest(2, k));
            calls.add(x -> x.odds(k));
            calls.add(x -> x.fits(k));
            calls.add(x -> x.walked(k));
            calls.add(x -> x.tells(k));
            calls.add(x -> x.octet(k));
            calls.add(x -> x.status(k));
        }
        calls.add(x -> x.back());
        calls.add(x -> x.row());
        calls.add(x -> x.alike());
        for (int k = 0; k < calls.size(); k++) {
            stays("asking " + maker + ", " + k, made, calls.get(k));
        }
    }

    private static PorterDoors full(Supplier<PorterDoors> made, String text) {
        PorterDoors x = made.get();
        Check.tape(x, text + " ".repeat(1600 - text.length()));
        return x;
    }

    private static void taped() {
        for (String maker : new String[] {"bare", "rich"}) {
            Supplier<PorterDoors> made = made(maker);
            String text = maker.equals("bare") ? "doors 5;open 2;" : QUESTION;
            stays("P2 feed, " + maker, made, x -> x.feed(1, -2, 3, -4, 5), "tape");
            stays("P2 feed refused, " + maker, () -> full(made, text), x -> x.feed(1, -2, 3, -4, 5), "refused 0");
            stays("P3 end, " + maker, made, x -> x.end(3) ? 1 : 0, "tape");
            stays("P3 end at its end, " + maker, made, x -> x.end(text.length()) ? 1 : 0);
            stays("P3 end refused, " + maker, made, x -> x.end(text.length() + 1) ? 1 : 0, "refused 0");
            stays("P3 end below 0, " + maker, made, x -> x.end(-1) ? 1 : 0, "refused 0");
        }
    }

    private static void texts() {
        for (String maker : new String[] {"bare", "rich"}) {
            Supplier<PorterDoors> made = made(maker);
            text("P4 corridor, " + maker, made, "doors 3;porter e turns all;ill 9;", x -> x.corridor(),
                    "tape", "fault", "corridor", "hall", "seen", "acts");
            for (String text : new String[] {"", "?", "doors 3;ill 9;porter x turns all;stiff 1;open 0;?", "doors 25;",
                "doors 3;porter a turns all;porter a", "doors 3;cold (((((((1", "doors 3;walks all;walks all;"}) {
                text("P4 corridor with a fault, " + maker, made, text, x -> x.corridor(), "tape", "fault", "refused 1");
            }
        }
        for (String text : new String[] {"first all", "first not all", "total night", "most ?", "", "least by by 1"}) {
            text("P35 ask", made("rich"), text, x -> x.ask(), "tape", "fault");
            text("P35 ask without a corridor", made("bare"), text, x -> x.ask(), "tape");
        }
        bytes("P23 see", made("rich"), new int[] {0, 1, 1, 0, 3, 1}, x -> x.see(), "tape", "seen");
        for (int[] rows : new int[][] {{}, {0}, {4, 0}, {0, 2}, {0, 1, 1}, {0, 1, 4, 0}, new int[50]}) {
            bytes("P23 see refused", made("rich"), rows, x -> x.see(), "tape", "refused 1");
            bytes("P23 see without a corridor", made("bare"), rows, x -> x.see(), "tape", "refused 1");
        }
    }

    private static void byHand() {
        Supplier<PorterDoors> rich = made("rich");
        Supplier<PorterDoors> bare = made("bare");
        stays("P27 send", rich, x -> x.send(0), "acts", "open", "turned");
        stays("P27 send, with jammed ones", made("last night"), x -> x.send(1), "acts", "open", "turned");
        stays("P28 turn", rich, x -> x.turn(1) ? 1 : 0, "acts", "open", "turned");
        stays("P29 oil", rich, x -> x.oil(0) ? 1 : 0, "acts", "turned");
        stays("P30 paint", rich, x -> x.paint(3, 9) ? 1 : 0, "acts", "paint");
        for (int k : new int[] {-1, 4, 9}) {
            for (Supplier<PorterDoors> made : List.of(rich, bare)) {
                stays("P27 send refused", made, x -> x.send(k), "refused 2");
                stays("P28 turn refused", made, x -> x.turn(k) ? 1 : 0, "refused 2");
                stays("P29 oil refused", made, x -> x.oil(k) ? 1 : 0, "refused 2");
                stays("P30 paint refused", made, x -> x.paint(k, 5) ? 1 : 0, "refused 2");
            }
        }
        stays("P29 oil refused, 0 times", rich, x -> x.oil(1) ? 1 : 0, "refused 2");
        stays("P30 paint refused, so already", rich, x -> x.paint(0, 2) ? 1 : 0, "refused 2");
        stays("P30 paint refused, no paint", rich, x -> x.paint(0, 10) ? 1 : 0, "refused 2");
        Supplier<PorterDoors> jammed = () -> moved(RICH.replace("stiff 5", "stiff 1"), 3, 0);
        stays("P28 turn refused, jammed", jammed, x -> x.turn(0) ? 1 : 0, "refused 2");
        stays("P29 oil a jammed one", jammed, x -> x.oil(0) ? 1 : 0, "acts", "turned");
        stays("P30 paint a jammed one", jammed, x -> x.paint(0, 7) ? 1 : 0, "acts", "paint");
    }

    private static void nights() {
        String[] due = {"acts", "night", "cold", "open", "turned", "tired", "kept"};
        String[] drawn = {"acts", "night", "cold", "open", "turned", "tired", "kept", "seed"};
        for (String maker : new String[] {"rich", "steady"}) {
            stays("P31 nights, " + maker, made(maker), x -> x.nights(3), due);
            stays("P31 100 nights, " + maker, made(maker), x -> x.nights(100), due);
            stays("P32 chance, " + maker, made(maker), x -> x.chance(3), drawn);
            for (int n : new int[] {-1, 0, 101}) {
                stays("P31 nights refused, " + maker, made(maker), x -> x.nights(n), "refused 3");
                stays("P32 chance refused, " + maker, made(maker), x -> x.chance(n), "refused 3");
            }
        }
        keptBefore("P31 nights", x -> x.nights(3));
        keptBefore("P32 chance", x -> x.chance(3));
        for (String maker : new String[] {"last night", "bare"}) {
            stays("P31 nights refused, " + maker, made(maker), x -> x.nights(1), "refused 3");
            stays("P32 chance refused, " + maker, made(maker), x -> x.chance(1), "refused 3");
        }
    }

    /** Who walks in the nights is kept behind those that were kept before. */
    private static void keptBefore(String name, ToLongFunction<PorterDoors> call) {
        PorterDoors x = Check.told(STEADY);
        call.applyAsLong(x);
        String before = kept(x).replaceFirst("\\d+:", "");
        call.applyAsLong(x);
        String behind = kept(x).replaceFirst("\\d+:", "");
        CHECK.due(name + " leaves what is kept: " + before + ", then " + behind, behind.startsWith(before), true);
    }

    private static void undone() {
        CHECK.due("P6 acts of the one to be undone", made("rich").get().has(9), 7);
        stays("P33 oil undone", made("rich"), x -> x.undo() ? 1 : 0, "acts", "turned");
        stays("P33 all undone", made("rich"), x -> {
            int k = 0;
            while (x.undo() && k < 6) {
                k++;
            }
            return k;
        }, "acts", "hall");
        stays("P33 undo refused", made("bare"), x -> x.undo() ? 1 : 0, "refused 4");
        Supplier<PorterDoors> none = () -> {
            PorterDoors x = made("rich").get();
            Check.tape(x, IMAGE);
            x.on();
            x.nights(1);
            x.undo();
            Check.tape(x, QUESTION);
            return x;
        };
        stays("P33 undo refused, with a corridor", none, x -> x.undo() ? 1 : 0, "refused 4");
        // what is kept by an act that can't be undone any more stays
        stays("P33 undo refused, behind 21 acts", () -> {
            PorterDoors x = Check.told(STEADY);
            x.nights(3);
            for (int k = 0; k < 20; k++) {
                x.turn(k % 4);
            }
            for (int k = 0; k < 20; k++) {
                x.undo();
            }
            return x;
        }, x -> x.undo() ? 1 : 0, "refused 4");
        // an act and its undoing: as it was, and what was drawn is drawn
        stays("P33 nights undone", made("rich"), x -> x.nights(9) + (x.undo() ? 1 : 0));
        stays("P33 chance undone", made("rich"), x -> x.chance(9) + (x.undo() ? 1 : 0), "seed");
        stays("P33 turn undone", made("rich"), x -> x.turn(1) && x.undo() ? 1 : 0);
        stays("P33 oil and undo", made("rich"), x -> x.oil(0) && x.undo() ? 1 : 0);
        stays("P33 paint undone", made("rich"), x -> x.paint(0, 4) && x.undo() ? 1 : 0);
        stays("P33 send undone", made("rich"), x -> x.send(0) + (x.undo() ? 1 : 0));
    }

    private static void seeds() {
        for (String maker : new String[] {"rich", "bare"}) {
            stays("P34 seed, " + maker, made(maker), x -> x.seed(5) ? 1 : 0, "seed");
            stays("P34 seed as it is, " + maker, () -> seeded(maker), x -> x.seed(8) ? 1 : 0);
            stays("P34 seed refused, " + maker, made(maker), x -> x.seed(-1) ? 1 : 0, "refused 5");
            stays("P34 seed far below 0, " + maker, made(maker), x -> x.seed(Integer.MIN_VALUE) ? 1 : 0, "refused 5");
        }
    }

    private static PorterDoors seeded(String maker) {
        PorterDoors x = made(maker).get();
        x.seed(8);
        return x;
    }

    private static void images() {
        for (String maker : new String[] {"rich", "bare", "last night"}) {
            stays("P36 image, " + maker, made(maker), x -> x.image(), "image");
        }
        bytes("P38 on", made("rich"), IMAGE, x -> x.on() ? 1 : 0, "tape", "acts", "hall");
        bytes("P38 on at the last night", made("last night"), IMAGE, x -> x.on() ? 1 : 0, "tape", "acts", "hall");
        int[] wrong = IMAGE.clone();
        wrong[wrong.length - 1] ^= 1;
        for (int[] none : new int[][] {{}, {0}, wrong, Arrays.copyOf(IMAGE, IMAGE.length - 1),
            Check.withCheck(3, 232, 0, 1, 7, 1, 3, 2, 0, 0, 0, 1, 4, 9, 0, 2, 2, 1, 5),
            Check.withCheck(0, 2, 0, 1, 7, 1, 3, 2, 0, 0, 0, 1, 4, 9, 0, 2, 2, 1, 100)}) {
            bytes("P38 on refused", made("rich"), none, x -> x.on() ? 1 : 0, "tape", "refused 5");
            bytes("P38 on without a corridor", made("bare"), none, x -> x.on() ? 1 : 0, "tape", "refused 5");
        }
        bytes("P38 on without a corridor", made("bare"), Check.withCheck(0, 0, 0, 0, 0), x -> x.on() ? 1 : 0,
                "tape", "refused 5");
    }
}
