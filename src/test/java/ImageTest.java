/** Promises 36 to 39: images, taken up again too, and what was refused. */
public final class ImageTest {
    private static final Check CHECK = new Check("ImageTest");
    private static final String TEXT = "doors 2;porter a turns all;porter b turns number=0;"
            + "paint 0 4;open 0;stiff 3;cold 99;";

    public static void main(String[] args) {
        firstImage();
        image();
        great();
        taken();
        refusedImages();
        stays();
        status();
        CHECK.finish();
    }

    private static void bytesAre(PorterDoors x, int... due) {
        CHECK.due("P36 how many bytes", x.image(), due.length + 1);
        int check = 193;
        for (int k = 0; k < due.length; k++) {
            CHECK.due("P37 byte " + k, x.octet(k), due[k]);
            check = (3 * check + due[k]) % 251;
        }
        CHECK.due("P36 the last byte", x.octet(due.length), check);
        CHECK.due("P37 none behind", x.octet(due.length + 1), -1);
        CHECK.due("P37 none ahead", x.octet(-1), -1);
    }

    private static void firstImage() {
        PorterDoors x = new PorterDoors();
        CHECK.due("P37 ahead of any", x.octet(0), -1);
        bytesAre(x, 0, 0, 0, 0, 0);
        CHECK.due("P36 its check", x.octet(5), 213);
    }

    private static void image() {
        PorterDoors x = Check.told(TEXT);
        bytesAre(x, 0, 0, 0, 0, 0, 1, 0, 4, 0, 0, 0, 0, 0);
        x.nights(2);
        // a, b: 0 is turned twice, 1 once, then 0 once: it is jammed, 1 once
        bytesAre(x, 0, 2, 0, 1, 140, 0, 3, 4, 0, 2, 0, 2, 2);
        x.paint(1, 9);
        x.turn(1);
        CHECK.due("P37 of the latest image", x.octet(9), 2);
        bytesAre(x, 0, 2, 0, 1, 140, 0, 3, 4, 1, 3, 9, 2, 2);
    }

    private static void great() {
        PorterDoors x = Check.told("doors 24;porter a turns number=23;cold 99;");
        for (int k = 0; k < 9; k++) {
            x.nights(100);
        }
        x.nights(99);
        int[] due = new int[5 + 72 + 1];
        int[] head = {3, 231, 15, 66, 63};
        System.arraycopy(head, 0, due, 0, 5);
        due[74] = 1;
        due[75] = 99;
        due[77] = 99;
        bytesAre(x, due);
    }

    private static boolean on(PorterDoors x, int... bytes) {
        Check.tape(x, bytes);
        return x.on();
    }

    private static void taken() {
        PorterDoors x = Check.told(TEXT);
        x.nights(2);
        Check.tape(x, 1, 1);
        x.see();
        CHECK.due("P38 taken", on(x, Check.withCheck(3, 229, 1, 2, 3, 1, 99, 9, 0, 2, 0, 99, 7)), true);
        CHECK.due("P38 night", x.has(2), 997);
        CHECK.due("P38 cold", x.has(5), 65536 + 512 + 3);
        CHECK.due("P38 open", x.later(0), 1);
        CHECK.due("P38 turned", x.door(0, 2), 99);
        CHECK.due("P38 jammed", x.has(4), 1);
        CHECK.due("P38 paint", x.door(0, 1), 9);
        CHECK.due("P38 tired", x.porter(0, 0), 99);
        CHECK.due("P38 tired too", x.porter(1, 0), 7);
        CHECK.due("P38 nothing is kept", x.has(7), 0);
        CHECK.due("P38 nothing to undo", x.has(9), 0);
        CHECK.due("P38 seen stays", x.has(8), 1);
        CHECK.due("P33 nothing to undo", x.undo(), false);
        CHECK.due("P12 to night 999", x.later(2) >= 0, true);
        CHECK.due("P12 beyond night 999", x.later(3), -1);
        CHECK.due("P38 the tape goes", x.end(1), false);
        CHECK.due("P31 nights on", x.nights(2), 4);
        CHECK.due("P11 kept anew", x.kept(0, 0), 997);
        CHECK.due("P38 the greatest",
                on(x, Check.withCheck(3, 231, 15, 66, 63, 1, 99, 9, 1, 99, 9, 99, 99)), true);
        CHECK.due("P38 the greatest night", x.has(2), 999);
        CHECK.due("P38 the greatest cold", x.has(5), 999999);
        CHECK.due("P38 the least", on(x, Check.withCheck(0, 0, 0, 0, 0, 0, 0, 0, 0, 0, 0, 0, 0)), true);
        bytesAre(x, 0, 0, 0, 0, 0, 0, 0, 0, 0, 0, 0, 0, 0);
        PorterDoors y = Check.told("doors 3;porter a turns colour=1;");
        CHECK.due("P10 ahead", y.order(0), 0);
        CHECK.due("P38 painted otherwise", on(y, Check.withCheck(0, 0, 0, 0, 0, 0, 0, 1, 0, 0, 0, 0, 0, 1, 0)), true);
        CHECK.due("P10 behind", y.order(0), 5);
        CHECK.due("P12 behind", y.later(1), 5);
    }

    private static void refusedImages() {
        int[][] wrong = {
            {3, 232, 0, 0, 0, 0, 0, 0, 0, 0, 0, 0, 0},
            {4, 0, 0, 0, 0, 0, 0, 0, 0, 0, 0, 0, 0},
            {0, 0, 15, 66, 64, 0, 0, 0, 0, 0, 0, 0, 0},
            {0, 0, 16, 0, 0, 0, 0, 0, 0, 0, 0, 0, 0},
            {0, 0, 0, 0, 0, 2, 0, 0, 0, 0, 0, 0, 0},
            {0, 0, 0, 0, 0, 0, 0, 0, 2, 0, 0, 0, 0},
            {0, 0, 0, 0, 0, 0, 100, 0, 0, 0, 0, 0, 0},
            {0, 0, 0, 0, 0, 0, 0, 0, 0, 100, 0, 0, 0},
            {0, 0, 0, 0, 0, 0, 0, 10, 0, 0, 0, 0, 0},
            {0, 0, 0, 0, 0, 0, 0, 0, 0, 0, 10, 0, 0},
            {0, 0, 0, 0, 0, 0, 0, 0, 0, 0, 0, 100, 0},
            {0, 0, 0, 0, 0, 0, 0, 0, 0, 0, 0, 0, 100},
            {0, 0, 0, 0, 0, 0, 0, 0, 0, 0, 0, 0},
            {0, 0, 0, 0, 0, 0, 0, 0, 0, 0, 0, 0, 0, 0},
            {},
        };
        PorterDoors x = Check.told(TEXT);
        x.nights(1);
        int refused = 0;
        for (int[] bytes : wrong) {
            CHECK.due("P38 wrong image " + refused, on(x, Check.withCheck(bytes)), false);
            refused++;
            CHECK.due("P39 refused", x.status(5), refused);
        }
        int[] right = Check.withCheck(0, 0, 0, 0, 0, 0, 0, 0, 0, 0, 0, 0, 0);
        right[13]++;
        CHECK.due("P38 wrong check", on(x, right), false);
        right[13] -= 2;
        CHECK.due("P38 wrong check, below", on(x, right), false);
        CHECK.due("P38 no tape", on(x), false);
        CHECK.due("P38 all stays", x.has(2) + x.has(9) + x.has(7), 1 + 1 + 2);
        CHECK.due("P38 without a corridor", on(new PorterDoors(), Check.withCheck(0, 0, 0, 0, 0)), false);
    }

    private static void stays() {
        PorterDoors x = Check.told(TEXT);
        CHECK.due("P36 14 bytes", x.image(), 14);
        x.nights(1);
        CHECK.due("P37 the latest image stays", x.octet(1), 0);
        Check.corridor(x, "doors 2;");
        CHECK.due("P37 with a new corridor too", x.octet(13) >= 0, true);
        // the seed is in no image: it stays
        PorterDoors y = Check.told("doors 2;porter a turns all;ill 19;");
        y.seed(1103527590);
        CHECK.due("P38 taken", on(y, Check.withCheck(0, 0, 0, 0, 0, 0, 0, 0, 0, 0, 0, 0)), true);
        PorterDoors z = Check.told("doors 2;porter a turns all;ill 19;");
        z.seed(1103527590);
        for (int k = 0; k < 40; k++) {
            CHECK.due("P38 the seed stays " + k, y.chance(1), z.chance(1));
        }
    }

    private static void status() {
        PorterDoors x = new PorterDoors();
        x.end(1);
        Check.corridor(x, "doors;");
        x.see();
        x.send(0);
        x.turn(0);
        x.oil(0);
        x.paint(0, 0);
        x.nights(1);
        x.chance(1);
        x.undo();
        x.undo();
        x.undo();
        x.undo();
        x.undo();
        x.seed(-1);
        x.on();
        x.on();
        int[] due = {1, 2, 4, 2, 5, 3};
        for (int k = 0; k < 6; k++) {
            CHECK.due("P39 status " + k, x.status(k), due[k]);
        }
        CHECK.due("P39 others", x.status(6), -1);
        CHECK.due("P39 others below", x.status(-1), -1);
        Check.corridor(x, "doors 2;");
        CHECK.due("P39 a corridor leaves it", x.status(4), 5);
    }
}
