/** The edges of promises 1 to 3: the new object, the tape from 0 to 1600 bytes. */
public final class TapeEdgesTest {
    private static final Check CHECK = new Check("TapeEdgesTest");
    private static final int NONE = PorterDoors.NONE;
    private static final int[] ENDS = {Integer.MIN_VALUE, -1, 0, 1, 2, Integer.MAX_VALUE};

    public static void main(String[] args) {
        nothingThere();
        refusedAhead();
        feedToTheLast();
        feedRefused();
        feedBytes();
        ends();
        endRefused();
        goes();
        CHECK.finish();
    }

    /** P1 "No corridor, no doors.": each call tells that there is none. */
    private static void nothingThere() {
        PorterDoors x = new PorterDoors();
        for (int k : ENDS) {
            CHECK.due("P1 has " + k, x.has(k), k >= 0 && k <= 9 ? 0 : NONE);
            CHECK.due("P1 fault " + k, x.fault(k), k == 0 ? 0 : NONE);
            CHECK.due("P1 letter " + k, x.letter(k, 0), NONE);
            CHECK.due("P1 door " + k, x.door(k, 0), NONE);
            CHECK.due("P1 porter " + k, x.porter(k, 0), NONE);
            CHECK.due("P1 order " + k, x.order(k), NONE);
            CHECK.due("P1 kept " + k, x.kept(k, 0), NONE);
            CHECK.due("P1 later " + k, x.later(k), NONE);
            CHECK.due("P1 cold " + k, x.cold(k), NONE);
            CHECK.due("P1 changes " + k, x.changes(k), NONE);
            CHECK.due("P1 sends " + k, x.sends(k, k), NONE);
            CHECK.due("P1 alone " + k, x.alone(k), NONE);
            CHECK.due("P1 widest " + k, x.widest(k), NONE);
            CHECK.due("P1 rest " + k, x.rest(1, k), NONE);
            CHECK.due("P1 odds " + k, x.odds(k), NONE);
            CHECK.due("P1 fits " + k, x.fits(k), NONE);
            CHECK.due("P1 walked " + k, x.walked(k), NONE);
            CHECK.due("P1 tells " + k, x.tells(k), NONE);
            CHECK.due("P1 octet " + k, x.octet(k), NONE);
        }
        for (int k = 0; k <= 9; k++) {
            CHECK.due("P1 there is none of it, has " + k, x.has(k), 0);
        }
        CHECK.due("P1 has 10", x.has(10), NONE);
        CHECK.due("P1 back", x.back(), NONE);
        CHECK.due("P1 row", x.row(), NONE);
        CHECK.due("P1 alike", x.alike(), NONE);
        CHECK.due("P1 ask", x.ask(), PorterDoors.NOTHING);
        for (int k = 0; k <= 5; k++) {
            CHECK.due("P1 nothing is refused by asking, status " + k, x.status(k), 0);
        }
        CHECK.due("P1 the image", x.image(), 6);
    }

    /** What is an act, or tells of a corridor, is refused without one. */
    private static void refusedAhead() {
        CHECK.stays("P4 no tape", PorterDoors::new, x -> x.see(), NONE, 1);
        CHECK.stays("P23 no doors", PorterDoors::new, x -> seen(x, 0, 0), NONE, 1);
        CHECK.stays("P27 nobody", PorterDoors::new, x -> x.send(0), NONE, 2);
        CHECK.stays("P28 no door", PorterDoors::new, x -> x.turn(0) ? 1 : 0, 0, 2);
        CHECK.stays("P29 no door", PorterDoors::new, x -> x.oil(0) ? 1 : 0, 0, 2);
        CHECK.stays("P30 no door", PorterDoors::new, x -> x.paint(0, 1) ? 1 : 0, 0, 2);
        CHECK.stays("P31 no corridor", PorterDoors::new, x -> x.nights(1), NONE, 3);
        CHECK.stays("P32 no corridor", PorterDoors::new, x -> x.chance(1), NONE, 3);
        CHECK.stays("P33 no act", PorterDoors::new, x -> x.undo() ? 1 : 0, 0, 4);
        CHECK.stays("P38 no corridor", PorterDoors::new, x -> taken(x, 0, 0, 0, 0, 0), 0, 5);
    }

    private static int seen(PorterDoors x, int... rows) {
        Check.tape(x, rows);
        return x.see();
    }

    private static int taken(PorterDoors x, int... bytes) {
        Check.tape(x, Check.withCheck(bytes));
        return x.on() ? 1 : 0;
    }

    private static PorterDoors blanks(int feeds) {
        PorterDoors x = new PorterDoors();
        for (int k = 1; k <= feeds; k++) {
            CHECK.due("P2 how many there are, " + k, blankFeed(x), 20 * k);
        }
        return x;
    }

    private static int blankFeed(PorterDoors x) {
        return x.feed(0x20202020, 0x20202020, 0x20202020, 0x20202020, 0x20202020);
    }

    /** P2 "refused (0), if there would be more than 1600": 1580 + 20 is taken, 1581 + 20 is not. */
    private static void feedToTheLast() {
        PorterDoors x = blanks(80);
        CHECK.due("P2 an 81st", blankFeed(x), NONE);
        CHECK.due("P39 refused, the 81st", x.status(0), 1);
        CHECK.due("P3 1581 of them", x.end(1581), true);
        CHECK.due("P2 1601", blankFeed(x), NONE);
        CHECK.due("P39 refused, 1601", x.status(0), 2);
        CHECK.due("P3 1580 of them", x.end(1580), true);
        CHECK.due("P2 1600", blankFeed(x), 1600);
        CHECK.due("P3 1599 of them", x.end(1599), true);
        CHECK.due("P2 1619", blankFeed(x), NONE);
        CHECK.due("P3 1 of them", x.end(1), true);
        CHECK.due("P2 21", blankFeed(x), 21);
        CHECK.due("P39 refused in all", x.status(0), 3);
    }

    /** A refused feed() leaves the tape: its bytes and how many they are. */
    private static void feedRefused() {
        CHECK.stays("P2 a full tape", () -> blanks(80), x -> x.feed(-1, -1, -1, -1, -1), NONE, 0);
        PorterDoors x = blanks(79);
        x.feed(0x20202020, 0x20202020, 0x20202020, 0x20202020, 0x20202024);
        x.end(1600);
        CHECK.due("P2 full", x.feed(0, 0, 0, 0, 0), NONE);
        CHECK.due("P3 still 1600", x.end(1600), true);
        CHECK.due("P4 a sign at the last byte", x.corridor(), NONE);
        CHECK.due("P5 where it was fed", x.fault(1), 1599);
        PorterDoors y = blanks(80);
        y.end(1590);
        y.feed(0x21212121, 0x21212121, 0x21212121, 0x21212121, 0x21212121);
        CHECK.due("P3 still 1590", y.end(1591), false);
        y.corridor();
        CHECK.due("P5 blanks alone", y.fault(1), 1590);
    }

    /** P2 "of each number the highest first": each byte of each number in its place, above 127 too. */
    private static void feedBytes() {
        PorterDoors x = Check.told("doors 24;");
        x.feed(0x00010100, 0x02010300, 0x04010500, 0x06010700, 0x08010900);
        CHECK.due("P23 ten rows", x.see(), 10);
        CHECK.due("P24 they are not so", x.fits(NONE), 0);
        x = Check.told("doors 24;open 0;open 2;open 4;open 6;open 8;");
        x.feed(0x00010100, 0x02010300, 0x04010500, 0x06010700, 0x08010900);
        x.see();
        CHECK.due("P24 each row in its place", x.fits(NONE), 1);
        x = Check.told("doors 2;");
        // night 999 is 3, 231; cold 999999 is 15, 66, 63
        int check = Check.withCheck(3, 231, 15, 66, 63, 0, 99, 0, 0, 0, 0)[11];
        x.feed(0x03e70f42, 0x3f006300, check << 8, 0, 0);
        x.end(12);
        CHECK.due("P38 the check one byte too high", x.on(), false);
        x.feed(0x03e70f42, 0x3f006300, check, 0, 0);
        x.end(12);
        CHECK.due("P38 the check in its place", x.on(), true);
        CHECK.due("P38 bytes above 127", x.has(2), 999);
        x.feed(-1, -1, -1, -1, -1);
        CHECK.due("P2 20 bytes, whatever they are", x.end(20), true);
        CHECK.due("P2 and no more", x.end(21), false);
        bytesAbove127();
    }

    private static void bytesAbove127() {
        for (int b : new int[] {0x00, 0x1f, 0x21, 0x7f, 0x80, 0xa0, 0xff}) {
            for (int at = 0; at < 20; at++) {
                int[] numbers = {0x20202020, 0x20202020, 0x20202020, 0x20202020, 0x20202020};
                int shift = 24 - 8 * (at % 4);
                numbers[at / 4] = numbers[at / 4] & ~(255 << shift) | b << shift;
                PorterDoors x = new PorterDoors();
                x.feed(numbers[0], numbers[1], numbers[2], numbers[3], numbers[4]);
                CHECK.due("P4 no text with byte " + b, x.corridor(), NONE);
                CHECK.due("P5 place of byte " + b, x.fault(1), at);
            }
        }
    }

    /** P3 "if it has not so many, or n is below 0": 0 and all are taken, -1 and one more are not. */
    private static void ends() {
        PorterDoors x = new PorterDoors();
        CHECK.due("P3 0 of none", x.end(0), true);
        CHECK.due("P3 1 of none", x.end(1), false);
        blankFeed(x);
        CHECK.due("P3 21 of 20", x.end(21), false);
        CHECK.due("P3 20 of 20", x.end(20), true);
        CHECK.due("P3 19 of 20", x.end(19), true);
        CHECK.due("P3 20 of 19", x.end(20), false);
        CHECK.due("P3 -1 of 19", x.end(-1), false);
        CHECK.due("P3 still 19", x.end(19), true);
        CHECK.due("P3 1 of 19", x.end(1), true);
        CHECK.due("P3 0 of 1", x.end(0), true);
        CHECK.due("P3 1 of none now", x.end(1), false);
        CHECK.due("P39 refused", x.status(0), 5);
        CHECK.due("P2 behind none", blankFeed(x), 20);
        CHECK.due("P3 far too many", x.end(Integer.MAX_VALUE), false);
        CHECK.due("P3 far below 0", x.end(Integer.MIN_VALUE), false);
        CHECK.due("P39 refused too", x.status(0), 7);
    }

    private static void endRefused() {
        CHECK.stays("P3 21 of 20", () -> blanks(1), x -> x.end(21) ? 1 : 0, 0, 0);
        CHECK.stays("P3 below 0", () -> blanks(1), x -> x.end(-1) ? 1 : 0, 0, 0);
        CHECK.stays("P3 1601", () -> blanks(80), x -> x.end(1601) ? 1 : 0, 0, 0);
        CHECK.stays("P3 all of it", () -> blanks(2), x -> x.end(40) ? 1 : 0, 1, -1);
        PorterDoors x = new PorterDoors();
        Check.tape(x, "doors 2;open 1;");
        x.end(16);
        x.end(-1);
        CHECK.due("P4 the text is whole", x.corridor(), 2);
    }

    /** "The tape (it goes)": with an answer, with a fault, refused, without a corridor. */
    private static void goes() {
        PorterDoors x = new PorterDoors();
        gone("ask without a corridor", x, Check.ask(x, "total 1"), PorterDoors.NOTHING);
        gone("on without a corridor", x, Check.become(x) ? 1 : 0, 0);
        gone("see without a corridor", x, seen(x, 0, 0), NONE);
        gone("corridor with a fault", x, Check.corridor(x, "doors 1;"), NONE);
        gone("corridor", x, Check.corridor(x, "doors 2;"), 1);
        gone("ask", x, Check.ask(x, "total 1"), 2);
        gone("ask with a fault", x, Check.ask(x, "total"), PorterDoors.NOTHING);
        gone("see", x, seen(x, 0, 0), 1);
        gone("see refused", x, seen(x, 2, 0), NONE);
        gone("on", x, Check.become(x) ? 1 : 0, 1);
        gone("on refused", x, Check.become(x, 0, 4) ? 1 : 0, 0);
        CHECK.due("P39 end() alone is refused here", x.status(0), 11);
    }

    private static void gone(String call, PorterDoors x, long answer, long due) {
        CHECK.due(call, answer, due);
        CHECK.due("the tape goes, " + call, x.end(1), false);
        CHECK.due("it begins anew, " + call, blankFeed(x), 20);
        x.end(0);
    }
}
