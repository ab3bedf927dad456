import java.util.Arrays;

/** The edges of promises 36 to 39: images, each byte up to its most, what is refused. */
public final class ImageEdgesTest {
    private static final Check CHECK = new Check("ImageEdgesTest");
    private static final int NONE = PorterDoors.NONE;
    private static final int[] BEYOND = {Integer.MIN_VALUE, Integer.MIN_VALUE + 1, -2, -1, Integer.MAX_VALUE};

    public static void main(String[] args) {
        sizes();
        octets();
        bytesTold();
        taken();
        eachByte();
        nightAndCold();
        lengths();
        checks();
        refusedImages();
        becomes();
        statusCounts();
        CHECK.finish();
    }

    private static PorterDoors told(int doors, int porters) {
        return Check.told(Check.porters(doors, porters, "number=#"));
    }

    /** P36 "how many bytes (ahead of a corridor 6, all 0 but the last)". */
    private static void sizes() {
        PorterDoors none = new PorterDoors();
        CHECK.due("P36 ahead of a corridor", none.image(), 6);
        int[] due = {0, 0, 0, 0, 0, 213, NONE};
        for (int k = 0; k < due.length; k++) {
            CHECK.due("P37 octet " + k, none.octet(k), due[k]);
        }
        Check.corridor(none, "doors 1;");
        CHECK.due("P36 a fault is no corridor", none.image(), 6);
        int[][] sizes = {{2, 0, 12}, {2, 1, 13}, {3, 1, 16}, {23, 9, 84}, {24, 0, 78}, {24, 9, 87}, {24, 10, 88}};
        for (int[] size : sizes) {
            PorterDoors x = told(size[0], size[1]);
            CHECK.due("P36 of " + size[0] + " and " + size[1], x.image(), size[2]);
            CHECK.due("P37 the last byte there is", x.octet(size[2] - 1) >= 0, true);
            CHECK.due("P37 none behind it", x.octet(size[2]), NONE);
        }
    }

    /** P37 "Byte k of the latest image(); NONE when there is none such". */
    private static void octets() {
        PorterDoors x = Check.told("doors 3;porter a turns all;open 2;paint 0 9;");
        for (int k = 0; k < 20; k++) {
            CHECK.due("P37 ahead of any " + k, x.octet(k), NONE);
        }
        CHECK.due("P36 its bytes", x.image(), 16);
        int[] due = Check.withCheck(0, 0, 0, 0, 0, 0, 0, 9, 0, 0, 0, 1, 0, 0, 0);
        for (int k = 0; k < 16; k++) {
            CHECK.due("P37 octet " + k, x.octet(k), due[k]);
        }
        CHECK.due("P37 octet 16", x.octet(16), NONE);
        for (int k : BEYOND) {
            CHECK.due("P37 octet " + k, x.octet(k), NONE);
        }
        x.nights(1);
        x.undo();
        x.turn(0);
        for (int k = 0; k < 16; k++) {
            CHECK.due("P37 the latest, as it was " + k, x.octet(k), due[k]);
        }
        x.image();
        CHECK.due("P37 the latest", x.octet(5) * 10 + x.octet(6), 11);
        CHECK.stays("P37 none such", () -> moved(), y -> y.octet(999), NONE, -1);
    }

    /** IV "NIGHT (two bytes, the higher first), COLD (three); for each DOOR ...; for each PORTER ...". */
    private static void bytesTold() {
        int[] nights = {0, 1, 255, 256, 257, 511, 512, 998, 999};
        for (int night : nights) {
            PorterDoors x = Check.atNight("doors 2;", night);
            x.image();
            CHECK.due("P36 night " + night, x.octet(0) * 256 + x.octet(1), night);
            CHECK.due("P36 its higher byte " + night, x.octet(0), night / 256);
        }
        int[][] colds = {{0, 0, 0}, {0, 0, 255}, {0, 1, 0}, {0, 255, 255}, {1, 0, 0}, {15, 66, 62}, {15, 66, 63}};
        for (int[] cold : colds) {
            PorterDoors x = Check.told("doors 2;");
            CHECK.due("P38 cold", Check.become(x, 2, cold[0], 3, cold[1], 4, cold[2]), true);
            CHECK.due("P6 cold", x.has(5), (cold[0] * 256 + cold[1]) * 256 + cold[2]);
            x.image();
            for (int k = 0; k < 3; k++) {
                CHECK.due("P36 cold, byte " + k, x.octet(2 + k), cold[k]);
            }
        }
        PorterDoors x = Check.told("doors 2;porter a turns all;porter b turns number=1;open 1;paint 0 3;paint 1 8;"
                + "walks who=0 or night=0;");
        x.nights(2);
        x.image();
        int[] due = Check.withCheck(0, 2, 0, 0, 2, 0, 2, 3, 0, 3, 8, 2, 0);
        CHECK.due("P13 the cold there", x.has(5), 2);
        for (int k = 0; k < due.length; k++) {
            CHECK.due("P36 byte " + k, x.octet(k), due[k]);
        }
    }

    private static boolean on(PorterDoors x, int... bytes) {
        Check.tape(x, bytes);
        return x.on();
    }

    /** An image is taken up again by the like corridor, from nothing to everything. */
    private static void taken() {
        int[][] sizes = {{2, 0}, {2, 1}, {24, 0}, {24, 10}};
        for (int[] size : sizes) {
            int length = 5 + 3 * size[0] + size[1];
            PorterDoors x = told(size[0], size[1]);
            int[] most = new int[length];
            Arrays.fill(most, 99);
            System.arraycopy(new int[] {3, 231, 15, 66, 63}, 0, most, 0, 5);
            for (int d = 0; d < size[0]; d++) {
                most[5 + 3 * d] = 1;
                most[7 + 3 * d] = 9;
            }
            CHECK.due("P38 the least", on(x, Check.withCheck(new int[length])), true);
            CHECK.due("P38 the most", on(x, Check.withCheck(most)), true);
            CHECK.due("P6 night", x.has(2), 999);
            CHECK.due("P6 cold", x.has(5), 999999);
            CHECK.due("P6 open", x.has(3), size[0]);
            CHECK.due("P8 the last door", x.door(size[0] - 1, 1) * 100 + x.door(size[0] - 1, 2), 999);
            CHECK.due("P9 the last porter", x.porter(size[1] - 1, 0), size[1] == 0 ? NONE : 99);
            CHECK.due("P36 as it was", x.image(), length + 1);
            for (int k = 0; k < length; k++) {
                CHECK.due("P37 as it was " + k, x.octet(k), most[k]);
            }
            CHECK.due("P38 the least again", on(x, Check.withCheck(new int[length])), true);
            CHECK.due("P6 all is 0", x.has(2) + x.has(3) + x.has(5) + x.door(0, 2) + x.door(0, 1), 0);
        }
    }

    private static PorterDoors moved() {
        PorterDoors x = Check.told("doors 2;porter a turns all;porter b turns number=0;paint 0 4;open 0;ill 50;");
        Check.see(x, 0, 1);
        x.nights(2);
        x.turn(1);
        x.image();
        return x;
    }

    /** P38 "turned, tired 99, paint 9, flags 1 at most": each byte, its most and one above. */
    private static void eachByte() {
        int[] most = {0, 0, 0, 0, 0, 1, 99, 9, 1, 99, 9, 99, 99};
        for (int k = 5; k < most.length; k++) {
            for (int worth : new int[] {0, 1, most[k] - 1, most[k]}) {
                PorterDoors x = moved();
                CHECK.due("P38 byte " + k + " of " + worth, Check.become(x, k, worth), true);
                x.image();
                CHECK.due("P37 byte " + k + " of " + worth, x.octet(k), worth);
                CHECK.due("P39 not refused", x.status(5), 0);
            }
            for (int worth : new int[] {most[k] + 1, most[k] + 2, 128, 255}) {
                int[] bytes = Check.imageWith(moved(), k, worth);
                refused("byte " + k + " of " + worth, bytes);
            }
        }
    }

    private static void refused(String name, int[] bytes) {
        CHECK.stays("P38 " + name, ImageEdgesTest::moved, x -> on(x, bytes) ? 1 : 0, 0, 5);
    }

    /** P38 "NIGHT 999, COLD 999999": 3, 231 and 15, 66, 63 at most. */
    private static void nightAndCold() {
        int[][] nights = {{0, 0}, {0, 255}, {1, 0}, {2, 255}, {3, 0}, {3, 230}, {3, 231}};
        for (int[] night : nights) {
            PorterDoors x = moved();
            CHECK.due("P38 night " + Arrays.toString(night), Check.become(x, 0, night[0], 1, night[1]), true);
            CHECK.due("P6 night " + Arrays.toString(night), x.has(2), night[0] * 256 + night[1]);
        }
        for (int[] night : new int[][] {{3, 232}, {3, 233}, {3, 255}, {4, 0}, {4, 231}, {255, 0}, {255, 255}}) {
            refused("night " + Arrays.toString(night), Check.imageWith(moved(), 0, night[0], 1, night[1]));
        }
        int[][] colds = {{15, 66, 62}, {15, 66, 63}, {15, 65, 255}, {14, 255, 255}, {0, 0, 0}};
        for (int[] cold : colds) {
            PorterDoors x = moved();
            CHECK.due("P38 cold " + Arrays.toString(cold), Check.become(x, 2, cold[0], 3, cold[1], 4, cold[2]), true);
            CHECK.due("P13 cold " + Arrays.toString(cold), x.cold(0), (cold[0] << 16) + (cold[1] << 8) + cold[2]);
        }
        for (int[] cold : new int[][] {{15, 66, 64}, {15, 66, 255}, {15, 67, 0}, {16, 0, 0}, {16, 66, 63}, {255, 255, 255}}) {
            refused("cold " + Arrays.toString(cold), Check.imageWith(moved(), 2, cold[0], 3, cold[1], 4, cold[2]));
        }
    }

    /** "AN IMAGE of this CORRIDOR": a byte more or less is none, nor the image of another one. */
    private static void lengths() {
        for (int length = 0; length <= 16; length++) {
            int[] bytes = new int[length];
            if (length != 13) {
                refused(length + " bytes and their check", Check.withCheck(bytes));
            }
            if (length != 14) {
                refused(length + " bytes", bytes);
            }
        }
        refused("no bytes", new int[0]);
        refused("1599 bytes and their check", Check.withCheck(new int[1599]));
        int[] right = Check.imageWith(moved());
        refused("one more behind it", Arrays.copyOf(right, right.length + 1));
        refused("its last byte missing", Arrays.copyOf(right, right.length - 1));
        refused("its first byte missing", Arrays.copyOfRange(right, 1, right.length));
        PorterDoors one = told(3, 1);
        CHECK.due("P38 3 doors and 1 are 15 and one", on(one, Check.withCheck(new int[15])), true);
        CHECK.due("P38 2 doors and 4 would be", on(told(2, 4), Check.withCheck(new int[15])), true);
        CHECK.due("P38 2 doors and 3 would not", on(told(2, 3), Check.withCheck(new int[15])), false);
        CHECK.due("P38 2 doors and nobody", on(told(2, 0), Check.withCheck(new int[11])), true);
        CHECK.due("P38 ahead of a corridor", on(new PorterDoors(), Check.withCheck(new int[5])), false);
        CHECK.due("P38 ahead of a corridor, nothing", on(new PorterDoors()), false);
    }

    /** IV "all ahead from 193 on, c = (3 c + it) mod 251": just one last byte is the right one. */
    private static void checks() {
        int[] right = Check.imageWith(moved(), 0, 2, 4, 77);
        int last = right.length - 1;
        for (int check = 0; check <= 255; check++) {
            PorterDoors x = moved();
            int[] bytes = right.clone();
            bytes[last] = check;
            CHECK.due("P38 check " + check, on(x, bytes), check == right[last]);
        }
        for (int k = 0; k < last; k++) {
            int[] bytes = right.clone();
            bytes[k] ^= 1;
            CHECK.due("P38 another byte " + k, on(moved(), bytes), false);
        }
        // 193, five zeros: 579 - 502 = 77, 231, 693 - 502 = 191, 573 - 502 = 71, 213
        PorterDoors none = new PorterDoors();
        none.image();
        CHECK.due("P36 by hand", none.octet(5), 213);
    }

    private static void refusedImages() {
        int[] right = Check.imageWith(moved());
        int[] wrong = right.clone();
        wrong[wrong.length - 1] = (wrong[wrong.length - 1] + 1) % 251;
        refused("a wrong check", wrong);
        PorterDoors x = moved();
        for (int k = 1; k <= 3; k++) {
            CHECK.due("P38 refused", on(x, wrong), false);
            CHECK.due("P39 refused " + k, x.status(5), k);
        }
        CHECK.due("P38 the acts stay", x.has(9), 2);
        CHECK.due("P38 the right one", on(x, right), true);
        CHECK.due("P39 no more", x.status(5), 3);
    }

    /** P38 "all is as it tells, nothing is KEPT or can be undone": what is seen and the seed stay. */
    private static void becomes() {
        PorterDoors x = moved();
        CHECK.due("P6 kept and acts before", x.has(7) * 10 + x.has(9), 42);
        CHECK.due("P38 taken", Check.become(x), true);
        CHECK.due("P6 kept and acts", x.has(7) + x.has(9), 0);
        CHECK.due("P11 none", x.kept(0, 0), NONE);
        CHECK.due("P6 seen", x.has(8), 1);
        CHECK.due("P33 none", x.undo(), false);
        CHECK.due("P6 night", x.has(2), 2);
        CHECK.due("P38 another", Check.become(x, 5, 1, 8, 1, 7, 2), true);
        CHECK.due("P12 open", x.later(0), 3);
        CHECK.due("P8 paint", x.door(0, 1), 2);
        CHECK.due("P24 by what is seen", x.fits(NONE), 2);
        x.turn(0);
        CHECK.due("P33 behind it", x.undo(), true);
        CHECK.due("P33 to it", x.later(0), 3);
        CHECK.due("P33 not ahead of it", x.undo(), false);
        PorterDoors y = moved();
        y.seed(99);
        Check.become(y, 1, 7);
        PorterDoors z = moved();
        z.seed(99);
        for (int k = 0; k < 30; k++) {
            CHECK.due("P38 the seed stays " + k, y.chance(1), z.chance(1));
        }
        CHECK.due("P38 the night goes on from there", y.has(2), 37);
    }

    /** P39: 0 .. 5, "NONE for others"; each count rises by its own calls alone. */
    private static void statusCounts() {
        PorterDoors x = new PorterDoors();
        int[] due = new int[6];
        for (int round = 1; round <= 3; round++) {
            for (int kind = 0; kind < 6; kind++) {
                due[kind] += refuse(x, kind);
                for (int k = 0; k < 6; k++) {
                    CHECK.due("P39 round " + round + ", status " + k + " behind those of " + kind, x.status(k), due[k]);
                }
                CHECK.due("P39 status 6", x.status(6), NONE);
                for (int k : BEYOND) {
                    CHECK.due("P39 status " + k, x.status(k), NONE);
                }
            }
            Check.corridor(x, "doors 2;");
            CHECK.due("P39 a corridor leaves them", x.status(2), due[2]);
        }
    }

    /** Each call of this kind is refused once: how many they are. */
    private static int refuse(PorterDoors x, int kind) {
        switch (kind) {
            case 0:
                x.end(1);
                x.end(-1);
                return 2;
            case 1:
                x.corridor();
                x.see();
                return 2;
            case 2:
                x.send(0);
                x.turn(2);
                x.oil(0);
                x.paint(0, 10);
                return 4;
            case 3:
                x.nights(0);
                x.chance(101);
                return 2;
            case 4:
                x.undo();
                return 1;
            default:
                x.seed(-1);
                x.on();
                return 2;
        }
    }
}
