/** Promises 8 to 14, and 27 to 34: doors, porters, nights, nights ahead, acts and their undoing. */
public final class HallTest {
    private static final Check CHECK = new Check("HallTest");
    private static final String STIFF = "doors 4;porter a turns number<2;porter b turns number>0;"
            + "open 3;stiff 3;paint 2 5;cold turned*10+open;";

    public static void main(String[] args) {
        doors();
        porters();
        orders();
        sums();
        kept();
        ahead();
        back();
        sent();
        turned();
        oiled();
        painted();
        nights();
        coldBounds();
        tired();
        chance();
        undone();
        undoneKept();
        aheadBehindActs();
        seeds();
        CHECK.finish();
    }

    private static void doors() {
        PorterDoors x = Check.told(STIFF);
        int[][] first = {{0, 0, 0, 0, 1}, {0, 0, 0, 0, 2}, {0, 5, 0, 0, 1}, {1, 0, 0, 0, 1}};
        int[][] second = {{1, 0, 1, 0, 1}, {0, 0, 2, 0, 2}, {1, 5, 1, 0, 1}, {0, 0, 1, 0, 1}};
        int[][] third = {{0, 0, 2, 0, 1}, {1, 0, 3, 1, 2}, {0, 5, 2, 0, 1}, {1, 0, 2, 0, 1}};
        doorsAre(x, first);
        CHECK.due("P31 first night", x.nights(1), 2);
        doorsAre(x, second);
        CHECK.due("P31 second night", x.nights(1), 2);
        doorsAre(x, third);
        CHECK.due("P6 jammed", x.has(4), 1);
        CHECK.due("P8 none such", x.door(4, 0), -1);
        CHECK.due("P8 below 0", x.door(-1, 0), -1);
        CHECK.due("P8 others", x.door(0, 5), -1);
        CHECK.due("P8 others below", x.door(0, -1), -1);
    }

    private static void doorsAre(PorterDoors x, int[][] due) {
        for (int d = 0; d < due.length; d++) {
            for (int what = 0; what < 5; what++) {
                CHECK.due("P8 door " + d + ", " + what, x.door(d, what), due[d][what]);
            }
        }
    }

    private static void porters() {
        PorterDoors x = Check.told("doors 9;porter a turns number/3*3=number;porter b turns colour=4;"
                + "porter c turns night=1;paint 1 4;walks who=0 and tired<2 or who=1 and opened>3;");
        CHECK.due("P9 order of a", x.porter(0, 1), 3);
        CHECK.due("P9 order of b", x.porter(1, 1), 1);
        CHECK.due("P9 order of c", x.porter(2, 1), 0);
        CHECK.due("P9 a walks", x.porter(0, 2), 1);
        CHECK.due("P9 b does not", x.porter(1, 2), 0);
        x.nights(2);
        CHECK.due("P9 a is tired", x.porter(0, 0), 2);
        CHECK.due("P9 a rests", x.porter(0, 2), 0);
        x.nights(1);
        CHECK.due("P9 a has rested", x.porter(0, 0), 0);
        for (int d = 0; d < 4; d++) {
            CHECK.due("P9 b walks with four open", x.porter(1, 2), 0);
            x.turn(d == 0 ? 1 : d == 1 ? 2 : d == 2 ? 4 : 5);
        }
        CHECK.due("P9 b walks then", x.porter(1, 2), 1);
        CHECK.due("P9 none such", x.porter(3, 0), -1);
        CHECK.due("P9 below 0", x.porter(-1, 0), -1);
        CHECK.due("P9 others", x.porter(0, 3), -1);
        CHECK.due("P9 others below", x.porter(0, -1), -1);
    }

    private static void orders() {
        PorterDoors x = Check.told("doors 24;porter a turns all;porter b turns number>22 or number=0;"
                + "porter c turns colour=3 and not number=5;porter d turns night=number;"
                + "paint 5 3;paint 6 3;paint 8 3;");
        CHECK.due("P10 all", x.order(0), 0xffffff);
        CHECK.due("P10 first and last", x.order(1), 0x800001);
        CHECK.due("P10 painted", x.order(2), 0x140);
        CHECK.due("P10 by night", x.order(3), 1);
        x.nights(7);
        CHECK.due("P10 by another night", x.order(3), 128);
        x.paint(7, 3);
        CHECK.due("P10 painted once more", x.order(2), 0x1c0);
        x.undo();
        CHECK.due("P10 paint undone", x.order(2), 0x140);
        CHECK.due("P10 none such", x.order(4), -1);
        CHECK.due("P10 below 0", x.order(-1), -1);
    }

    private static void sums() {
        order("number+1*2=4", 0b000100);
        order("(number+1)*2=4", 0b000010);
        order("10-number-1=6", 0b001000);
        order("number*2/3=2", 0b011000);
        order("(number-4)/3=0-1", 0b001110);
        order("(number-3)/(0-2)=1", 0b000011);
        order("number/0=0", 0b111111);
        order("9999*9999+5=1000*1000", 0b111111);
        order("(0-9999)*9999-5=0-1000*1000", 0b111111);
        order("9999*9999-number>1000*1000-2", 0b000011);
        order("9999*9999*9999/1000=1000", 0b111111);
        order("min(number,3)=max(number-2,2)", 0b100100);
        order("number<2 or number>3 and number<5", 0b010011);
        order("[number<2 or number>3] and number<5", 0b010011);
        order("[number<2 or number>3] and number>0", 0b110010);
        order("not number=2 and number<4", 0b001011);
        order("not [number=2 and number<4]", 0b111011);
        order("not not number=2", 0b000100);
        order("night=0 and number<night+1", 0b000001);
        order("not all", 0);
        order("all and all or not all", 0b111111);
    }

    private static void order(String test, int due) {
        CHECK.due("P10 " + test, Check.told("doors 6;porter a turns " + test + ";").order(0), due);
    }

    private static void kept() {
        PorterDoors x = Check.told(STIFF);
        CHECK.due("P11 none", x.kept(0, 0), -1);
        CHECK.due("P31 three nights", x.nights(3), 6);
        int[][] due = {{0, 0, 2}, {0, 1, 3}, {1, 0, 2}, {1, 1, 2}, {2, 0, 1}, {2, 1, 2}};
        keptAre(x, due);
        CHECK.due("P27 sent", x.send(0), 0);
        CHECK.due("P11 who is sent is not kept", x.has(7), 6);
        CHECK.due("P11 none such", x.kept(6, 0), -1);
        CHECK.due("P11 below 0", x.kept(-1, 0), -1);
        CHECK.due("P11 others", x.kept(0, 3), -1);
        CHECK.due("P11 others below", x.kept(0, -1), -1);
        x.nights(17);
        CHECK.due("P11 just 40", x.has(7), 40);
        CHECK.due("P11 the first is there", x.kept(0, 2), 2);
        x.nights(1);
        CHECK.due("P11 the last 40 alone", x.has(7), 40);
        CHECK.due("P11 the first night is gone", x.kept(0, 0), 1);
        CHECK.due("P11 its porter", x.kept(0, 1), 0);
        CHECK.due("P11 its doors", x.kept(1, 2), 2);
        CHECK.due("P11 the last night", x.kept(39, 0), 20);
        CHECK.due("P11 the last porter", x.kept(39, 1), 1);
        CHECK.due("P11 none behind", x.kept(40, 0), -1);
        PorterDoors y = Check.told("doors 24;porter a turns all;walks night>996;");
        y.nights(100);
        for (int k = 0; k < 9; k++) {
            y.nights(k < 8 ? 100 : 99);
        }
        keptAre(y, new int[][] {{997, 0, 24}, {998, 0, 24}});
    }

    private static void keptAre(PorterDoors x, int[][] due) {
        CHECK.due("P11 how many", x.has(7), due.length);
        for (int k = 0; k < due.length; k++) {
            for (int what = 0; what < 3; what++) {
                CHECK.due("P11 kept " + k + ", " + what, x.kept(k, what), due[k][what]);
            }
        }
    }

    private static void ahead() {
        PorterDoors x = Check.told(STIFF);
        int[] open = {8, 5, 10, 7, 7, 7};
        int[] cold = {0, 52, 144, 267, 390, 513};
        for (int n = 5; n >= 0; n--) {
            CHECK.due("P12 later " + n, x.later(n), open[n]);
            CHECK.due("P13 cold " + n, x.cold(n), cold[n]);
        }
        CHECK.due("P13 60 nights", x.cold(60), 267 + 57 * 123);
        CHECK.due("P12 too many", x.later(61), -1);
        CHECK.due("P12 below 0", x.later(-1), -1);
        CHECK.due("P13 too many", x.cold(61), -1);
        CHECK.due("P13 below 0", x.cold(-1), -1);
        CHECK.due("P12 all stays", x.has(2) + x.has(5) + x.has(7) + x.has(9), 0);
        x.nights(2);
        CHECK.due("P12 from now on", x.later(1), 7);
        CHECK.due("P13 from now on", x.cold(1), 267);
        x.turn(2);
        CHECK.due("P12 behind an act", x.later(0), 14);
        toNight(x, 950);
        CHECK.due("P12 to night 999", x.later(49), x.later(0));
        CHECK.due("P12 beyond night 999", x.later(50), -1);
        CHECK.due("P13 beyond night 999", x.cold(50), -1);
        PorterDoors y = Check.told("doors 2;porter a turns number=0;ill 100;");
        CHECK.due("P12 without draws", y.later(1), 1);
    }

    private static void toNight(PorterDoors x, int night) {
        while (x.has(2) < night) {
            x.nights(Math.min(100, night - x.has(2)));
        }
    }

    private static void back() {
        CHECK.due("P14 never", Check.told(STIFF).back(), -1);
        PorterDoors x = Check.told(STIFF);
        x.nights(3);
        CHECK.due("P14 at rest", x.back(), 1);
        CHECK.due("P14 two", Check.told("doors 2;porter a turns all;open 0;").back(), 2);
        CHECK.due("P14 four", Check.told("doors 2;porter a turns number=0 or night/2*2=night;").back(), 4);
        CHECK.due("P14 nobody", Check.told("doors 2;").back(), 1);
        String late = "doors 2;porter a turns night=0 or night=";
        CHECK.due("P14 60", Check.told(late + "59;").back(), 60);
        CHECK.due("P14 61", Check.told(late + "60;").back(), -1);
        PorterDoors y = Check.told("doors 2;porter a turns night>996;");
        toNight(y, 997);
        CHECK.due("P14 just to night 999", y.back(), 2);
        y.nights(1);
        CHECK.due("P14 not beyond night 999", y.back(), -1);
        y.nights(1);
        CHECK.due("P14 at night 999", y.back(), -1);
    }

    private static void sent() {
        PorterDoors x = Check.told(STIFF);
        CHECK.due("P27 sent", x.send(1), 3);
        CHECK.due("P27 doors", x.later(0), 6);
        CHECK.due("P27 not tired by it", x.porter(1, 0), 0);
        CHECK.due("P27 the night stays", x.has(2), 0);
        CHECK.due("P27 no cold", x.has(5), 0);
        CHECK.due("P27 turned", x.door(2, 2), 1);
        x.send(1);
        CHECK.due("P27 sent thrice", x.send(1), 3);
        CHECK.due("P27 jammed ones are left", x.send(0), 1);
        CHECK.due("P27 none to turn", x.send(1), 0);
        CHECK.due("P27 an act too", x.has(9), 5);
        CHECK.due("P27 none such", x.send(2), -1);
        CHECK.due("P27 below 0", x.send(-1), -1);
        CHECK.due("P39 refused", x.status(2), 2);
        CHECK.due("P27 refused is no act", x.has(9), 5);
        PorterDoors y = Check.told("doors 2;porter a turns all;walks not all;");
        CHECK.due("P27 whatever walks says", y.send(0), 2);
    }

    private static void turned() {
        PorterDoors x = Check.told("doors 3;open 1;stiff 2;");
        CHECK.due("P28 opened", x.turn(0), true);
        CHECK.due("P28 open", x.door(0, 0), 1);
        CHECK.due("P28 shut", x.turn(1), true);
        CHECK.due("P28 it is", x.door(1, 0), 0);
        CHECK.due("P28 once more", x.turn(1), true);
        CHECK.due("P28 jammed", x.turn(1), false);
        CHECK.due("P28 stays open", x.door(1, 0), 1);
        CHECK.due("P28 stays turned", x.door(1, 2), 2);
        CHECK.due("P28 none such", x.turn(3), false);
        CHECK.due("P28 below 0", x.turn(-1), false);
        CHECK.due("P39 refused", x.status(2), 3);
        CHECK.due("P28 acts", x.has(9), 3);
        PorterDoors y = Check.told("doors 2;");
        for (int k = 0; k < 101; k++) {
            CHECK.due("P28 without stiff", y.turn(1), true);
        }
        CHECK.due("P28 turned 99 at most", y.door(1, 2), 99);
        CHECK.due("P28 turned on", y.door(1, 0), 1);
    }

    private static void oiled() {
        PorterDoors x = Check.told("doors 3;stiff 1;porter a turns not all;");
        CHECK.due("P29 not turned", x.oil(0), false);
        CHECK.due("P29 another, not turned", x.oil(1), false);
        x.turn(0);
        CHECK.due("P29 jammed", x.door(0, 3), 1);
        CHECK.due("P29 oiled", x.oil(0), true);
        CHECK.due("P29 turned 0 times", x.door(0, 2), 0);
        CHECK.due("P29 no more jammed", x.door(0, 3), 0);
        CHECK.due("P29 as open as it was", x.door(0, 0), 1);
        CHECK.due("P29 not twice", x.oil(0), false);
        CHECK.due("P29 none such", x.oil(3), false);
        CHECK.due("P29 below 0", x.oil(-1), false);
        CHECK.due("P39 refused", x.status(2), 5);
        CHECK.due("P29 acts", x.has(9), 2);
        x.turn(2);
        CHECK.due("P29 another", x.oil(2), true);
        x.nights(1);
        CHECK.due("P29 another, not turned, kept or not", x.oil(1), false);
    }

    private static void painted() {
        PorterDoors x = Check.told("doors 3;porter a turns colour=9;paint 1 4;");
        CHECK.due("P30 painted", x.paint(2, 9), true);
        CHECK.due("P30 it is", x.door(2, 1), 9);
        CHECK.due("P30 the order sees it", x.order(0), 4);
        CHECK.due("P30 so already", x.paint(1, 4), false);
        CHECK.due("P30 0 already", x.paint(0, 0), false);
        CHECK.due("P30 0", x.paint(1, 0), true);
        CHECK.due("P30 10", x.paint(1, 10), false);
        CHECK.due("P30 below 0", x.paint(1, -1), false);
        CHECK.due("P30 none such", x.paint(3, 1), false);
        CHECK.due("P30 door below 0", x.paint(-1, 1), false);
        CHECK.due("P39 refused", x.status(2), 6);
        CHECK.due("P30 acts", x.has(9), 2);
    }

    private static void nights() {
        PorterDoors x = Check.told("doors 4;porter a turns all;porter b turns number<2;"
                + "walks opened<2 or who=0;");
        // a opens all four: b, who comes then, stays; the next night a shuts all: b walks
        CHECK.due("P31 by what is so then", x.nights(1), 1);
        CHECK.due("P31 open", x.later(0), 15);
        CHECK.due("P31 b walks", x.nights(1), 2);
        CHECK.due("P31 open then", x.later(0), 3);
        // from now on a leaves two open each time
        CHECK.due("P31 each time counts", x.nights(100), 100);
        CHECK.due("P31 one act", x.has(9), 3);
        CHECK.due("P31 0", x.nights(0), -1);
        CHECK.due("P31 101", x.nights(101), -1);
        CHECK.due("P31 below 0", x.nights(-1), -1);
        toNight(x, 998);
        CHECK.due("P31 beyond night 999", x.nights(2), -1);
        CHECK.due("P31 night 999", x.nights(1) >= 1, true);
        CHECK.due("P6 night", x.has(2), 999);
        CHECK.due("P31 no more", x.nights(1), -1);
        CHECK.due("P32 no more", x.chance(1), -1);
        CHECK.due("P39 refused", x.status(3), 6);
        PorterDoors y = new PorterDoors();
        CHECK.due("P31 without a corridor", y.nights(1), -1);
        CHECK.due("P39 refused, without", y.status(3), 1);
    }

    private static void coldBounds() {
        PorterDoors x = Check.told("doors 3;cold number*100-50;");
        CHECK.due("P13 0 and 50 and 99", x.cold(1), 149);
        PorterDoors y = Check.told("doors 24;cold 99;");
        CHECK.due("P13 24 doors", y.cold(60), 24 * 99 * 60);
        toNight(y, 420);
        CHECK.due("P6 below the most", y.has(5), 24 * 99 * 420);
        y.nights(1);
        CHECK.due("P6 cold at most", y.has(5), 999999);
        CHECK.due("P13 at most ahead", y.cold(3), 999999);
        // the cold comes when all have walked, in the night that was, by how each door stands then
        PorterDoors z = Check.told("doors 2;porter a turns number=0;cold night*10+open+turned;");
        z.nights(1);
        CHECK.due("P31 first cold", z.has(5), 2);
        z.nights(1);
        CHECK.due("P31 second cold", z.has(5), 2 + 22);
        PorterDoors d = Check.told("doors 5;open 1;open 3;");
        d.nights(3);
        CHECK.due("P31 cold without its sum", d.has(5), 6);
    }

    private static void tired() {
        PorterDoors x = Check.told("doors 2;porter a turns all;porter b turns all;walks tired<99 or who=0;");
        x.nights(99);
        CHECK.due("P9 both 99", x.porter(0, 0) + x.porter(1, 0), 198);
        x.nights(1);
        CHECK.due("P9 99 at most", x.porter(0, 0), 99);
        CHECK.due("P9 0 again", x.porter(1, 0), 0);
    }

    private static void chance() {
        PorterDoors x = Check.told("doors 2;porter a turns all;porter b turns number=0;ill 100;");
        // 1 -> 1103527590, / 64 = 17242618, mod 100 = 18: ill; -> 377401575, / 64 = 5896899, mod 2 = 1
        CHECK.due("P32 one ill", x.chance(1), 1);
        CHECK.due("P32 b was away", x.later(0), 3);
        CHECK.due("P32 a is tired", x.porter(0, 0), 1);
        CHECK.due("P32 b is not", x.porter(1, 0), 0);
        CHECK.due("P11 one kept", x.has(7), 1);
        CHECK.due("P32 all ill", x.chance(100), 100);
        CHECK.due("P32 one act", x.has(9), 2);
        CHECK.due("P32 0", x.chance(0), -1);
        CHECK.due("P32 101", x.chance(101), -1);
        CHECK.due("P39 refused", x.status(3), 2);
        // ill 18 is just not above the draw of 18, ill 19 is
        CHECK.due("P32 not below", Check.told("doors 2;porter a turns all;ill 18;").chance(1), 0);
        CHECK.due("P32 below", Check.told("doors 2;porter a turns all;ill 19;").chance(1), 1);
        PorterDoors y = Check.told("doors 2;ill 100;");
        CHECK.due("P32 nobody to be ill", y.chance(3), 0);
        // three draws from 1: then the next one is the fourth, of 1629580800
        CHECK.due("P32 draws without porters", draws(y, 3, 1), true);
        CHECK.due("P32 without a corridor", new PorterDoors().chance(1), -1);
        PorterDoors z = Check.told("doors 2;porter a turns all;walks tired<3;ill 50;");
        z.seed(5);
        z.nights(2);
        CHECK.due("P32 tired two", z.porter(0, 0), 2);
        z.seed(1);
        CHECK.due("P32 ill", z.chance(1), 1);
        CHECK.due("P32 tired by 0", z.porter(0, 0), 0);
    }

    /** Whether the seed stands as it does behind so many draws from another one. */
    private static boolean draws(PorterDoors x, int draws, int seed) {
        long s = seed;
        for (int k = 0; k < draws; k++) {
            s = (1103515245L * s + 12345) % 2147483648L;
        }
        Check.corridor(x, "doors 2;porter a turns all;ill 50;");
        for (int k = 0; k < 200; k++) {
            s = (1103515245L * s + 12345) % 2147483648L;
            boolean ill = s / 64 % 100 < 50;
            if (ill) {
                s = (1103515245L * s + 12345) % 2147483648L;
            }
            if (x.chance(1) != (ill ? 1 : 0)) {
                return false;
            }
        }
        return true;
    }

    private static void undone() {
        PorterDoors x = Check.told(STIFF);
        CHECK.due("P33 none", x.undo(), false);
        x.nights(3);
        x.send(0);
        x.turn(3);
        x.oil(1);
        x.paint(2, 1);
        x.chance(2);
        CHECK.due("P33 five acts", x.has(9), 5);
        CHECK.due("P28 the jammed one was none", x.status(2), 1);
        CHECK.due("P33 chance", x.undo(), true);
        CHECK.due("P33 night", x.has(2), 3);
        CHECK.due("P33 cold", x.has(5), 267);
        CHECK.due("P33 tired", x.porter(0, 0), 3);
        CHECK.due("P33 kept", x.has(7), 6);
        CHECK.due("P33 not the paint yet", x.door(2, 1), 1);
        CHECK.due("P33 paint", x.undo(), true);
        CHECK.due("P33 as it was painted", x.door(2, 1), 5);
        CHECK.due("P33 oil", x.undo(), true);
        CHECK.due("P33 turned as it was", x.door(1, 2), 3);
        CHECK.due("P33 send", x.undo(), true);
        CHECK.due("P33 nights", x.undo(), true);
        CHECK.due("P33 as at first", x.later(0), 8);
        CHECK.due("P33 untired", x.porter(1, 0), 0);
        CHECK.due("P33 no night", x.has(2) + x.has(5) + x.has(7) + x.has(9), 0);
        CHECK.due("P33 no more", x.undo(), false);
        CHECK.due("P39 refused", x.status(4), 2);
        CHECK.due("P39 what is undone stays refused", x.status(2), 1);
        PorterDoors y = Check.told("doors 2;");
        for (int k = 0; k < 25; k++) {
            y.turn(0);
            CHECK.due("P6 acts", y.has(9), Math.min(20, k + 1));
        }
        for (int k = 0; k < 20; k++) {
            CHECK.due("P33 one of 20", y.undo(), true);
            CHECK.due("P33 turned", y.door(0, 2), 24 - k);
        }
        CHECK.due("P33 the 21st", y.undo(), false);
        CHECK.due("P33 five stay", y.door(0, 2), 5);
        // the seed stays: the same nights come otherwise
        PorterDoors z = Check.told("doors 2;porter a turns all;ill 50;");
        z.chance(10);
        z.undo();
        long s = 1;
        int drawn = 0;
        for (int k = 0; k < 10; k++) {
            s = (1103515245L * s + 12345) % 2147483648L;
            drawn++;
            if (s / 64 % 100 < 50) {
                s = (1103515245L * s + 12345) % 2147483648L;
                drawn++;
            }
        }
        CHECK.due("P33 the seed stays", draws(z, drawn, 1), true);
    }

    private static void undoneKept() {
        PorterDoors x = Check.told("doors 2;porter a turns number=night;");
        x.nights(3);
        x.nights(100);
        CHECK.due("P11 the last 40", x.kept(0, 0), 63);
        x.undo();
        keptAre(x, new int[][] {{0, 0, 1}, {1, 0, 1}, {2, 0, 0}});
        Check.tape(x, 0, 1);
        x.see();
        x.turn(0);
        x.undo();
        CHECK.due("P33 what is seen is no act", x.has(8), 1);
    }

    /** Each act is seen by all that was asked of the nights ahead and of the sets before. */
    private static void aheadBehindActs() {
        PorterDoors x = Check.told("doors 3;porter a turns number=0 or colour=1 or night=1;stiff 2;ill 100;");
        aheadIs(x, "at first", 1, 6, 1);
        x.send(0);
        aheadIs(x, "sent", 0, 6, 1);
        x.send(0);
        aheadIs(x, "sent again", 0, 6, 1);
        x.oil(0);
        aheadIs(x, "oiled", 1, 6, 1);
        x.turn(2);
        aheadIs(x, "turned", 5, 2, 1);
        x.paint(2, 1);
        aheadIs(x, "painted", 1, 2, 5);
        x.chance(1);
        aheadIs(x, "ill", 3, 2, 7);
        x.undo();
        aheadIs(x, "undone", 1, 2, 5);
        x.nights(1);
        aheadIs(x, "a night", 2, 2, 7);
        x.undo();
        x.undo();
        aheadIs(x, "undone twice", 5, 2, 1);
    }

    private static void aheadIs(PorterDoors x, String when, int one, int two, int order) {
        CHECK.due("P12 one ahead, " + when, x.later(1), one);
        CHECK.due("P12 two ahead, " + when, x.later(2), two);
        CHECK.due("P16 his set, " + when, x.changes(1), order);
        CHECK.due("P10 his order, " + when, x.order(0), order);
    }

    private static void seeds() {
        PorterDoors x = Check.told("doors 2;porter a turns all;ill 50;");
        CHECK.due("P34 1 at first", draws(x, 0, 1), true);
        for (int seed : new int[] {0, 1, 2, 4711, Integer.MAX_VALUE}) {
            x = Check.told("doors 2;");
            CHECK.due("P34 seed " + seed, x.seed(seed), true);
            CHECK.due("P34 drawn from " + seed, draws(x, 0, seed), true);
        }
        x = Check.told("doors 2;");
        x.seed(9);
        CHECK.due("P34 below 0", x.seed(-1), false);
        CHECK.due("P34 least", x.seed(Integer.MIN_VALUE), false);
        CHECK.due("P39 refused", x.status(5), 2);
        CHECK.due("P34 stays", draws(x, 0, 9), true);
        CHECK.due("P34 ahead of a corridor", new PorterDoors().seed(3), true);
    }
}
