/** The edges of promises 27 to 34: acts, nights, draws, what is undone, seeds. */
public final class ActEdgesTest {
    private static final Check CHECK = new Check("ActEdgesTest");
    private static final int NONE = PorterDoors.NONE;
    private static final int[] BEYOND = {Integer.MIN_VALUE, Integer.MIN_VALUE + 1, -2, -1, Integer.MAX_VALUE};
    private static final String THREE = "doors 3;porter a turns number<2;porter b turns number=2;open 1;"
            + "paint 2 7;stiff 2;ill 50;";

    public static void main(String[] args) {
        send();
        turn();
        oil();
        paint();
        nights();
        nightsToTheLast();
        chance();
        chanceToTheLast();
        illOrNot();
        whoIsIll();
        draws();
        undoTwenty();
        undoEach();
        askedAhead();
        undoRefused();
        seed();
        lastCall();
        CHECK.finish();
    }

    private static PorterDoors moved() {
        PorterDoors x = Check.told(THREE);
        x.nights(1);
        Check.see(x, 0, 1);
        x.turn(1);
        x.paint(0, 9);
        x.image();
        return x;
    }

    /** A call is refused: it answers no, this count rises, all else stays. */
    private static void refused(String name, java.util.function.ToLongFunction<PorterDoors> call, long no, int kind) {
        CHECK.stays(name, ActEdgesTest::moved, call, no, kind);
    }

    /** P27 "how many DOORS he TURNED; NONE, refused (2), when there is none such". */
    private static void send() {
        for (int porters : new int[] {1, 2, 10}) {
            String text = Check.porters(24, porters, "number<#");
            PorterDoors x = Check.told(text);
            CHECK.due("P27 the first of " + porters, x.send(0), 0);
            CHECK.due("P27 the last of " + porters, x.send(porters - 1), porters - 1);
            CHECK.due("P27 one behind " + porters, x.send(porters), NONE);
            CHECK.due("P39 refused", x.status(2), 1);
            CHECK.due("P6 acts", x.has(9), 2);
        }
        PorterDoors all = Check.told("doors 24;porter a turns all;");
        CHECK.due("P27 24 doors", all.send(0), 24);
        PorterDoors x = moved();
        // turned are 0 once, 1 twice, 2 once
        CHECK.due("P27 of two one is jammed", x.send(0), 1);
        CHECK.due("P27 both are", x.send(0), 0);
        CHECK.due("P27 who turns none is sent, too", x.has(9), 5);
        refused("P27 none such", y -> y.send(2), NONE, 2);
        for (int porter : BEYOND) {
            refused("P27 send " + porter, y -> y.send(porter), NONE, 2);
        }
        PorterDoors nobody = Check.told("doors 2;");
        CHECK.due("P27 nobody there", nobody.send(0), NONE);
        CHECK.due("P39 refused, nobody there", nobody.status(2), 1);
    }

    /** P28 "false, refused (2), when it is JAMMED, or there is none such". */
    private static void turn() {
        for (int doors : new int[] {2, 3, 24}) {
            PorterDoors x = Check.told("doors " + doors + ";");
            CHECK.due("P28 the first of " + doors, x.turn(0), true);
            CHECK.due("P28 the last of " + doors, x.turn(doors - 1), true);
            CHECK.due("P28 one behind " + doors, x.turn(doors), false);
            CHECK.due("P12 turned of " + doors, x.later(0), 1 | 1 << doors - 1);
            CHECK.due("P39 refused", x.status(2), 1);
        }
        PorterDoors x = Check.told("doors 2;stiff 2;");
        CHECK.due("P28 turned 0 times", x.turn(0), true);
        CHECK.due("P28 turned 1 time", x.turn(0), true);
        CHECK.due("P28 turned 2 times: jammed", x.turn(0), false);
        CHECK.due("P6 two acts", x.has(9), 2);
        x.undo();
        CHECK.due("P28 no more jammed", x.turn(0), true);
        refused("P28 jammed", y -> y.turn(1) ? 1 : 0, 0, 2);
        refused("P28 none such", y -> y.turn(3) ? 1 : 0, 0, 2);
        for (int door : BEYOND) {
            refused("P28 turn " + door, y -> y.turn(door) ? 1 : 0, 0, 2);
        }
    }

    /** P29 "false, refused (2), when it has been turned 0 times, or there is none such". */
    private static void oil() {
        PorterDoors x = Check.told("doors 24;");
        CHECK.due("P29 turned 0 times", x.oil(23), false);
        x.turn(23);
        CHECK.due("P29 turned once", x.oil(23), true);
        CHECK.due("P29 0 times then", x.oil(23), false);
        CHECK.due("P29 none such", x.oil(24), false);
        CHECK.due("P39 refused", x.status(2), 3);
        Check.become(x, 6, 99, 9, 1);
        CHECK.due("P29 turned 99 times", x.oil(0), true);
        CHECK.due("P8 0 times", x.door(0, 2), 0);
        CHECK.due("P29 another, once", x.oil(1), true);
        CHECK.due("P6 acts", x.has(9), 2);
        x.undo();
        CHECK.due("P29 once again", x.oil(1), true);
        CHECK.stays("P29 turned 0 times", () -> Check.told(THREE), y -> y.oil(0) ? 1 : 0, 0, 2);
        refused("P29 none such", y -> y.oil(3) ? 1 : 0, 0, 2);
        for (int door : BEYOND) {
            refused("P29 oil " + door, y -> y.oil(door) ? 1 : 0, 0, 2);
        }
    }

    /** P30 "(0 .. 9): ... when it is so already, there is none such, or for others". */
    private static void paint() {
        for (int colour = 0; colour <= 9; colour++) {
            PorterDoors x = Check.told("doors 24;paint 23 " + (colour + 1) % 10 + ";");
            CHECK.due("P30 colour " + colour, x.paint(23, colour), true);
            CHECK.due("P8 it is " + colour, x.door(23, 1), colour);
            CHECK.due("P30 so already " + colour, x.paint(23, colour), false);
            CHECK.due("P30 none such", x.paint(24, colour), false);
            CHECK.due("P6 one act", x.has(9), 1);
            CHECK.due("P39 refused", x.status(2), 2);
            CHECK.due("P30 0 is so already but here", x.paint(0, 0), false);
            CHECK.due("P30 the first door", x.paint(0, 9 - colour / 9), true);
        }
        refused("P30 so already", y -> y.paint(0, 9) ? 1 : 0, 0, 2);
        refused("P30 0 already", y -> y.paint(1, 0) ? 1 : 0, 0, 2);
        refused("P30 10", y -> y.paint(0, 10) ? 1 : 0, 0, 2);
        refused("P30 11", y -> y.paint(1, 11) ? 1 : 0, 0, 2);
        refused("P30 none such", y -> y.paint(3, 1) ? 1 : 0, 0, 2);
        for (int k : BEYOND) {
            refused("P30 colour " + k, y -> y.paint(0, k) ? 1 : 0, 0, 2);
            refused("P30 door " + k, y -> y.paint(k, 1) ? 1 : 0, 0, 2);
        }
    }

    /** P31 "n NIGHTS (1 .. 100): how many WALKED (each time counts)". */
    private static void nights() {
        for (int n : new int[] {1, 2, 99, 100}) {
            PorterDoors x = Check.told("doors 2;porter a turns all;porter b turns not all;");
            CHECK.due("P31 nights " + n, x.nights(n), 2 * n);
            CHECK.due("P6 night " + n, x.has(2), n);
            CHECK.due("P6 one act for " + n, x.has(9), 1);
            CHECK.due("P33 undone as one, " + n, x.undo(), true);
            CHECK.due("P6 night 0 behind " + n, x.has(2), 0);
        }
        CHECK.due("P31 nobody walks", Check.told("doors 2;porter a turns all;walks not all;").nights(100), 0);
        CHECK.due("P31 nobody there", Check.told("doors 2;").nights(100), 0);
        for (int n : new int[] {0, 101, 102, 1000}) {
            refused("P31 nights " + n, y -> y.nights(n), NONE, 3);
        }
        for (int n : BEYOND) {
            refused("P31 nights " + n, y -> y.nights(n), NONE, 3);
        }
    }

    /** P31 "(beyond NIGHT 999)"; II "The NIGHT is one more (999 at most)". */
    private static void nightsToTheLast() {
        int[][] nights = {{898, 100}, {899, 100}, {900, 99}, {901, 98}, {997, 2}, {998, 1}};
        for (int[] night : nights) {
            String text = "doors 2;porter a turns all;";
            PorterDoors x = Check.atNight(text, night[0]);
            if (night[1] < 100) {
                CHECK.due("P31 one too many from " + night[0], x.nights(night[1] + 1), NONE);
                CHECK.due("P39 refused", x.status(3), 1);
                CHECK.due("P6 still night " + night[0], x.has(2), night[0]);
            }
            CHECK.due("P31 the most from " + night[0], x.nights(night[1]), night[1]);
            CHECK.due("P6 night then, from " + night[0], x.has(2), night[0] + night[1]);
        }
        CHECK.stays("P31 at night 999", () -> Check.atNight(THREE, 999), x -> x.nights(1), NONE, 3);
        CHECK.stays("P31 two at night 998", () -> Check.atNight(THREE, 998), x -> x.nights(2), NONE, 3);
        CHECK.stays("P31 100 at night 900", () -> Check.atNight(THREE, 900), x -> x.nights(100), NONE, 3);
        CHECK.stays("P32 at night 999", () -> Check.atNight(THREE, 999), x -> x.chance(1), NONE, 3);
        CHECK.stays("P32 two at night 998", () -> Check.atNight(THREE, 998), x -> x.chance(2), NONE, 3);
        CHECK.stays("P32 100 at night 900", () -> Check.atNight(THREE, 900), x -> x.chance(100), NONE, 3);
        PorterDoors x = Check.atNight("doors 2;porter a turns all;", 998);
        x.nights(1);
        CHECK.due("P33 back from the last night", x.undo(), true);
        CHECK.due("P31 once more to it", x.nights(1), 1);
        CHECK.due("P6 night 999", x.has(2), 999);
    }

    /** P32 "n NIGHTS by the seed (1 .. 100), one ACT: how many times one was ill". */
    private static void chance() {
        for (int n : new int[] {1, 2, 99, 100}) {
            PorterDoors x = Check.told("doors 2;porter a turns all;ill 100;");
            CHECK.due("P32 each night, " + n, x.chance(n), n);
            CHECK.due("P6 night " + n, x.has(2), n);
            CHECK.due("P6 one act for " + n, x.has(9), 1);
            CHECK.due("P6 nobody walked", x.has(7), 0);
            CHECK.due("P33 undone as one, " + n, x.undo(), true);
            CHECK.due("P6 night 0 behind " + n, x.has(2), 0);
        }
        CHECK.due("P32 nobody is ill", Check.told("doors 2;porter a turns all;").chance(100), 0);
        CHECK.due("P32 nobody there to be ill", Check.told("doors 2;ill 100;").chance(100), 0);
        for (int n : new int[] {0, 101, 102, 1000}) {
            refused("P32 chance " + n, y -> y.chance(n), NONE, 3);
        }
        for (int n : BEYOND) {
            refused("P32 chance " + n, y -> y.chance(n), NONE, 3);
        }
    }

    private static void chanceToTheLast() {
        int[][] nights = {{898, 100}, {899, 100}, {900, 99}, {997, 2}, {998, 1}};
        for (int[] night : nights) {
            PorterDoors x = Check.atNight("doors 2;porter a turns all;ill 100;", night[0]);
            if (night[1] < 100) {
                CHECK.due("P32 one too many from " + night[0], x.chance(night[1] + 1), NONE);
                CHECK.due("P39 refused", x.status(3), 1);
            }
            CHECK.due("P32 the most from " + night[0], x.chance(night[1]), night[1]);
            CHECK.due("P6 night then, from " + night[0], x.has(2), night[0] + night[1]);
        }
    }

    /** The seed behind one DRAW. */
    private static long behind(long seed) {
        return (1103515245L * seed + 12345) % 2147483648L;
    }

    /** II "a DRAW of 100: below ill": what is drawn is ill with one more, not with as many. */
    private static void illOrNot() {
        for (int seed : new int[] {0, 1, 2, 3, 63, 64, 77, 4711, 1 << 30, Integer.MAX_VALUE - 1, Integer.MAX_VALUE}) {
            int drawn = (int) (behind(seed) / 64 % 100);
            for (int ill = Math.max(0, drawn - 1); ill <= Math.min(100, drawn + 2); ill++) {
                PorterDoors x = Check.told("doors 2;porter a turns all;ill " + ill + ";");
                x.seed(seed);
                CHECK.due("P32 seed " + seed + ", ill " + ill, x.chance(1), drawn < ill ? 1 : 0);
                CHECK.due("P12 who is ill does not walk", x.later(0), drawn < ill ? 0 : 3);
                CHECK.due("P9 he is tired by 0", x.porter(0, 0), drawn < ill ? 0 : 1);
            }
        }
        // from 1 on: 1103527590 / 64 = 17242618, of 100 it is 18
        PorterDoors x = Check.told("doors 2;porter a turns all;ill 18;");
        CHECK.due("P34 it is 1 at first, not ill by 18", x.chance(1), 0);
        PorterDoors y = Check.told("doors 2;porter a turns all;ill 19;");
        CHECK.due("P34 it is 1 at first, ill by 19", y.chance(1), 1);
    }

    /** II "a DRAW of these: that one does not walk in it (he is tired by 0)". */
    private static void whoIsIll() {
        for (int porters = 1; porters <= 10; porters++) {
            String text = Check.porters(10, porters, "number=#");
            for (int seed = 0; seed < 12; seed++) {
                PorterDoors x = Check.told(text + "ill 100;");
                x.seed(seed * 1000003);
                long second = behind(behind(seed * 1000003));
                int away = (int) (second / 64 % porters);
                CHECK.due("P32 one of " + porters, x.chance(1), 1);
                CHECK.due("P32 all but " + away, x.later(0), (1 << porters) - 1 - (1 << away));
                CHECK.due("P6 all but one are kept", x.has(7), porters - 1);
                CHECK.due("P9 not tired", x.porter(away, 0), 0);
            }
        }
        // one who would not have walked is ill, too; one who was tired is by 0 then
        PorterDoors x = Check.told("doors 2;porter a turns all;walks not all;ill 100;");
        CHECK.due("P32 ill all the same", x.chance(3), 3);
        PorterDoors y = Check.told("doors 2;porter a turns all;ill 100;");
        Check.become(y, 11, 99);
        y.chance(1);
        CHECK.due("P9 by 0", y.porter(0, 0), 0);
    }

    /** A DRAW in each night by the seed, and in none of the others: the rows of draws are told apart. */
    private static void draws() {
        for (int ill : new int[] {0, 50, 100}) {
            for (int porters = 0; porters <= 3; porters++) {
                String text = Check.porters(4, porters, "number=#");
                PorterDoors x = Check.told(text + "ill " + ill + ";");
                long seed = 1;
                int count = 0;
                for (int night = 0; night < 7; night++) {
                    seed = behind(seed);
                    if (seed / 64 % 100 < ill && porters > 0) {
                        seed = behind(seed);
                        count++;
                    }
                }
                CHECK.due("P32 ill " + ill + " of " + porters, x.chance(7), count);
                x.nights(3);
                x.later(60);
                x.odds(0);
                x.rest(40, 0);
                x.undo();
                x.undo();
                seedIs("ill " + ill + " of " + porters, x, seed);
            }
        }
    }

    /** The seed of x, told by the next 60 nights of a new corridor. */
    private static void seedIs(String name, PorterDoors x, long seed) {
        PorterDoors twin = new PorterDoors();
        twin.seed((int) seed);
        Check.corridor(x, "doors 2;porter a turns all;ill 50;");
        Check.corridor(twin, "doors 2;porter a turns all;ill 50;");
        for (int k = 0; k < 60; k++) {
            CHECK.due("II the seed behind " + name, x.chance(1), twin.chance(1));
        }
    }

    /** II "The last 20 can be undone." */
    private static void undoTwenty() {
        for (int acts : new int[] {0, 1, 19, 20, 21, 22, 39, 40, 41, 60}) {
            PorterDoors x = Check.told("doors 2;");
            for (int k = 0; k < acts; k++) {
                x.paint(1, (k + 1) % 10);
            }
            int undone = Math.min(20, acts);
            CHECK.due("P6 to be undone of " + acts, x.has(9), undone);
            for (int k = 1; k <= undone; k++) {
                CHECK.due("P33 undone " + k + " of " + acts, x.undo(), true);
                CHECK.due("P8 as before, " + k + " of " + acts, x.door(1, 1), (acts - k) % 10);
                CHECK.due("P6 left of " + acts, x.has(9), undone - k);
            }
            CHECK.due("P33 one more of " + acts, x.undo(), false);
            CHECK.due("P39 refused", x.status(4), 1);
            CHECK.due("P8 it stays", x.door(1, 1), (acts - undone) % 10);
            x.turn(0);
            CHECK.due("P33 a new one", x.undo() && !x.undo(), true);
        }
        // undone in between: 15 there, 10 back, 15 there are 20
        PorterDoors x = Check.told("doors 2;");
        for (int k = 0; k < 15; k++) {
            x.turn(0);
        }
        for (int k = 0; k < 10; k++) {
            x.undo();
        }
        for (int k = 0; k < 16; k++) {
            x.turn(0);
        }
        CHECK.due("P6 20 of 21", x.has(9), 20);
        for (int k = 0; k < 20; k++) {
            x.undo();
        }
        CHECK.due("P33 the 21st", x.undo(), false);
        CHECK.due("P8 turned once", x.door(0, 2), 1);
    }

    /** Each ACT is one; what is refused and what is asked is none; it is undone as a whole. */
    private static void undoEach() {
        PorterDoors x = moved();
        java.util.List<String> before = View.of(x);
        String[] acts = {"send", "turn", "oil", "paint", "nights", "chance"};
        for (int k = 0; k < acts.length; k++) {
            PorterDoors y = moved();
            act(y, k);
            CHECK.due("P6 one act more, " + acts[k], y.has(9), 4);
            CHECK.due("P33 undone, " + acts[k], y.undo(), true);
            CHECK.due("P33 all as before, " + acts[k], View.of(y).equals(before), true);
            CHECK.due("P39 nothing refused, " + acts[k], y.status(2) + y.status(3) + y.status(4), 0);
        }
        x.see();
        x.seed(5);
        x.image();
        Check.ask(x, "total 1");
        x.send(9);
        x.nights(0);
        CHECK.due("P6 no acts", x.has(9), 3);
        Check.become(x);
        CHECK.due("P38 nothing can be undone", x.has(9), 0);
        CHECK.due("P33 nothing", x.undo(), false);
    }

    private static void act(PorterDoors x, int which) {
        switch (which) {
            case 0 -> x.send(0);
            case 1 -> x.turn(2);
            case 2 -> x.oil(1);
            case 3 -> x.paint(2, 0);
            case 4 -> x.nights(100);
            default -> x.chance(100);
        }
    }

    /** What was asked ahead of an act is no answer behind it. */
    private static void askedAhead() {
        for (int k = 0; k < 10; k++) {
            PorterDoors x = moved();
            PorterDoors twin = moved();
            View.of(x);
            x.later(60);
            actOrMore(x, k);
            actOrMore(twin, k);
            CHECK.due("II asked ahead of act " + k, View.of(x).equals(View.of(twin)), true);
            x.undo();
            twin.undo();
            CHECK.due("II undone, asked ahead of act " + k, View.of(x).equals(View.of(twin)), true);
        }
    }

    private static void actOrMore(PorterDoors x, int which) {
        switch (which) {
            case 6 -> x.undo();
            case 7 -> Check.become(x, 5, 0, 7, 3, 8, 1, 1, 9);
            case 8 -> Check.see(x, 2, 0);
            case 9 -> Check.corridor(x, "doors 3;porter b turns number=1;open 0;");
            default -> act(x, which);
        }
    }

    /** "An object is used for at most 512 calls": the 512th is as good as the first. */
    private static void lastCall() {
        String text = "doors 24;porter a turns all;porter b turns number/2*2=night;walks tired<9 or who=1;cold open*3;";
        PorterDoors x = new PorterDoors();
        int calls = 2 + (text.length() + 19) / 20 + 1;
        CHECK.due("P4 a corridor", Check.corridor(x, text), 5);
        PorterDoors fresh = Check.told(text);
        long rest = fresh.rest(40, 1);
        long later = fresh.later(60);
        long widest = fresh.widest(0);
        while (calls + 5 <= 511) {
            CHECK.due("P28 turned", x.turn(5), true);
            CHECK.due("P33 undone", x.undo(), true);
            CHECK.due("P21 rest, as ever", x.rest(40, 1), rest);
            CHECK.due("P12 later, as ever", x.later(60), later);
            CHECK.due("P20 widest, as ever", x.widest(0), widest);
            calls += 5;
        }
        for (; calls < 511; calls++) {
            CHECK.due("P36 an image", x.image(), 6 + 72 + 2);
        }
        CHECK.due("P31 the 512th call", x.nights(100), fresh.nights(100));
    }

    private static void undoRefused() {
        CHECK.stays("P33 none can be", () -> Check.told(THREE), x -> x.undo() ? 1 : 0, 0, 4);
        CHECK.stays("P33 behind an image", () -> {
            PorterDoors x = moved();
            Check.become(x);
            return x;
        }, x -> x.undo() ? 1 : 0, 0, 4);
        CHECK.stays("P33 behind all of it", () -> {
            PorterDoors x = moved();
            while (x.has(9) > 0) {
                x.undo();
            }
            return x;
        }, x -> x.undo() ? 1 : 0, 0, 4);
    }

    /** P34 "refused (5), when it is below 0": 0 and the greatest are taken, -1 is not. */
    private static void seed() {
        for (int seed : new int[] {0, 1, 2, Integer.MAX_VALUE - 1, Integer.MAX_VALUE}) {
            PorterDoors x = Check.told("doors 2;");
            CHECK.due("P34 seed " + seed, x.seed(seed), true);
            CHECK.due("P39 not refused", x.status(5), 0);
            seedIs("seed " + seed, x, seed);
            PorterDoors y = Check.told("doors 2;");
            y.seed(seed);
            CHECK.due("P34 below 0", y.seed(-1), false);
            CHECK.due("P34 far below 0", y.seed(Integer.MIN_VALUE), false);
            CHECK.due("P39 refused twice", y.status(5), 2);
            seedIs("a refused one, " + seed, y, seed);
        }
        refused("P34 -1", y -> y.seed(-1) ? 1 : 0, 0, 5);
        refused("P34 least", y -> y.seed(Integer.MIN_VALUE) ? 1 : 0, 0, 5);
        PorterDoors x = Check.told("doors 2;porter a turns all;");
        x.seed(3);
        CHECK.due("P34 no act", x.has(9), 0);
        CHECK.due("P34 ahead of a corridor", new PorterDoors().seed(0), true);
    }
}
