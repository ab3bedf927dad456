/** The edges of promises 6 to 14: what there is, doors, porters, what is kept, the nights ahead. */
public final class HallEdgesTest {
    private static final Check CHECK = new Check("HallEdgesTest");
    private static final int NONE = PorterDoors.NONE;
    private static final int[] BEYOND = {Integer.MIN_VALUE, Integer.MIN_VALUE + 1, -2, -1, Integer.MAX_VALUE};
    private static final String THREE = "doors 3;porter ann turns number<2;porter b turns number>0;open 1;"
            + "paint 2 7;stiff 4;walks who=0 or night>0;";

    public static void main(String[] args) {
        has();
        letters();
        doors();
        porters();
        orders();
        kept();
        keptForty();
        keptByTen();
        stiffness();
        jammedInAWalk();
        turnedMost();
        tiredMost();
        byWhatIsSoThen();
        without();
        coldBounds();
        coldMost();
        ahead();
        aheadToTheLastNight();
        back();
        CHECK.finish();
    }

    /** P6: 0 .. 9, "NONE for others". */
    private static void has() {
        PorterDoors x = Check.told(THREE);
        x.nights(1);
        Check.see(x, 0, 1, 2, 0);
        x.turn(2);
        x.oil(2);
        // night 0: ann alone walks, opens 0, shuts 1
        int[] due = {3, 2, 1, 2, 0, 1, 4, 1, 2, 3};
        for (int k = 0; k < due.length; k++) {
            CHECK.due("P6 has " + k, x.has(k), due[k]);
        }
        none("P6 has 10", x.has(10));
        for (int k : BEYOND) {
            none("P6 has " + k, x.has(k));
        }
        CHECK.stays("P6 has", () -> moved(), y -> y.has(10) + y.has(-1), -2, -1);
    }

    private static void none(String call, long answer) {
        CHECK.due(call, answer, NONE);
    }

    private static PorterDoors moved() {
        PorterDoors x = Check.told(THREE);
        x.nights(2);
        Check.see(x, 0, 1);
        x.turn(0);
        return x;
    }

    /** P7 "Letter k (0 .. 5) of the NAME of a PORTER: 1 .. 26; 0 behind it; NONE when there is none such". */
    private static void letters() {
        PorterDoors x = Check.told("doors 2;porter a turns all;porter zyxwvu turns all;porter azazaz turns all;");
        int[][] due = {{1, 0, 0, 0, 0, 0}, {26, 25, 24, 23, 22, 21}, {1, 26, 1, 26, 1, 26}};
        for (int p = 0; p < 3; p++) {
            for (int k = 0; k < 6; k++) {
                CHECK.due("P7 letter " + k + " of " + p, x.letter(p, k), due[p][k]);
            }
            none("P7 letter 6 of " + p, x.letter(p, 6));
            for (int k : BEYOND) {
                none("P7 letter " + k + " of " + p, x.letter(p, k));
                none("P7 letter 0 of " + k, x.letter(k, 0));
            }
        }
        none("P7 letter 0 of the third, none such", x.letter(3, 0));
        none("P7 letter 6 of the third, none such", x.letter(3, 6));
        none("P7 nobody there", Check.told("doors 2;").letter(0, 0));
    }

    /** P8: a DOOR 0 .. doors - 1, what 0 .. 4; "NONE when there is none such, or for others". */
    private static void doors() {
        PorterDoors x = Check.told(THREE);
        int[][] due = {{0, 0, 0, 0, 1}, {1, 0, 0, 0, 2}, {0, 7, 0, 0, 1}};
        for (int d = 0; d < 3; d++) {
            for (int what = 0; what <= 4; what++) {
                CHECK.due("P8 door " + d + ", " + what, x.door(d, what), due[d][what]);
            }
            none("P8 door, 5", x.door(d, 5));
            for (int k : BEYOND) {
                none("P8 door, " + k, x.door(d, k));
            }
        }
        for (int what = -1; what <= 5; what++) {
            none("P8 door 3, " + what, x.door(3, what));
            for (int k : BEYOND) {
                none("P8 door " + k, x.door(k, what));
            }
        }
        PorterDoors y = Check.told("doors 24;porter a turns number=23;open 23;");
        CHECK.due("P8 door 23", y.door(23, 0) + y.door(23, 4), 2);
        none("P8 door 24", y.door(24, 0));
        none("P8 door 24, the porters", y.door(24, 4));
        String ten = Check.porters(24, 10, "number>#");
        PorterDoors z = Check.told(ten);
        for (int d = 0; d < 24; d++) {
            CHECK.due("P8 how many of ten have " + d, z.door(d, 4), Math.min(10, d));
        }
    }

    /** P9: a PORTER 0 .. porters - 1, what 0 .. 2. */
    private static void porters() {
        PorterDoors x = Check.told(THREE);
        int[][] due = {{0, 2, 1}, {0, 2, 0}};
        for (int p = 0; p < 2; p++) {
            for (int what = 0; what <= 2; what++) {
                CHECK.due("P9 porter " + p + ", " + what, x.porter(p, what), due[p][what]);
            }
            none("P9 porter, 3", x.porter(p, 3));
            for (int k : BEYOND) {
                none("P9 porter, " + k, x.porter(p, k));
            }
        }
        for (int what = -1; what <= 3; what++) {
            none("P9 porter 2, " + what, x.porter(2, what));
            for (int k : BEYOND) {
                none("P9 porter " + k, x.porter(k, what));
            }
        }
        none("P9 nobody there", Check.told("doors 2;").porter(0, 0));
    }

    private static void orders() {
        PorterDoors x = Check.told(THREE);
        CHECK.due("P10 the first", x.order(0), 3);
        CHECK.due("P10 the last", x.order(1), 6);
        none("P10 none such", x.order(2));
        for (int k : BEYOND) {
            none("P10 order " + k, x.order(k));
        }
        PorterDoors y = Check.told("doors 24;porter a turns all;porter b turns not all;porter c turns number=23;");
        CHECK.due("P10 everything", y.order(0), (1 << 24) - 1);
        CHECK.due("P10 nothing", y.order(1), 0);
        CHECK.due("P10 the last door", y.order(2), 1 << 23);
        CHECK.due("P9 everything", y.porter(0, 1), 24);
        CHECK.due("P9 nothing", y.porter(1, 1), 0);
        none("P10 nobody there", Check.told("doors 2;").order(0));
    }

    /** P11: k 0 .. told - 1, what 0 .. 2. */
    private static void kept() {
        PorterDoors x = Check.told(THREE);
        none("P11 nothing kept", x.kept(0, 0));
        x.nights(2);
        int[][] due = {{0, 0, 2}, {1, 0, 2}, {1, 1, 2}};
        for (int k = 0; k < 3; k++) {
            for (int what = 0; what <= 2; what++) {
                CHECK.due("P11 kept " + k + ", " + what, x.kept(k, what), due[k][what]);
            }
            none("P11 kept, 3", x.kept(k, 3));
            for (int beyond : BEYOND) {
                none("P11 kept, " + beyond, x.kept(k, beyond));
                none("P11 kept " + beyond, x.kept(beyond, 0));
            }
        }
        none("P11 kept 3, three are", x.kept(3, 0));
        none("P11 kept 40, three are", x.kept(40, 0));
        // who turns no door has walked, too; who does not walk is not kept
        PorterDoors y = Check.told("doors 2;porter a turns not all;porter b turns all;walks who=0;");
        y.nights(1);
        CHECK.due("P11 one alone", y.has(7), 1);
        CHECK.due("P11 no door", y.kept(0, 2), 0);
        y.send(1);
        CHECK.due("P11 KEPT is each who WALKS in a NIGHT: who is sent is not", y.has(7), 1);
    }

    /** II "the last 40 are told": 39, 40, 41 nights of one porter. */
    private static void keptForty() {
        PorterDoors x = Check.told("doors 2;porter a turns number<night;");
        x.nights(39);
        keptFrom(x, 39, 0);
        none("P11 kept 39 of 39", x.kept(39, 0));
        x.nights(1);
        keptFrom(x, 40, 0);
        none("P11 kept 40 of 40", x.kept(40, 0));
        x.nights(1);
        keptFrom(x, 40, 1);
        none("P11 kept 40 of 41", x.kept(40, 0));
        x.nights(38);
        keptFrom(x, 40, 39);
        x.nights(1);
        keptFrom(x, 40, 40);
        x.nights(1);
        keptFrom(x, 40, 41);
        x.undo();
        keptFrom(x, 40, 40);
        x.undo();
        x.undo();
        keptFrom(x, 40, 1);
        x.undo();
        keptFrom(x, 40, 0);
        x.undo();
        keptFrom(x, 39, 0);
        x.undo();
        CHECK.due("P33 nothing kept", x.has(7), 0);
        none("P11 none at first", x.kept(0, 0));
    }

    /** So many are kept, one a night from this one on; in night 0 no door, in night 1 one, then two. */
    private static void keptFrom(PorterDoors x, int many, int night) {
        CHECK.due("P6 what is kept", x.has(7), many);
        CHECK.due("P11 the oldest", x.kept(0, 0), night);
        CHECK.due("P11 its doors", x.kept(0, 2), Math.min(2, night));
        CHECK.due("P11 one in between", x.kept(many / 2, 0), night + many / 2);
        CHECK.due("P11 the latest", x.kept(many - 1, 0), night + many - 1);
    }

    private static void keptByTen() {
        String text = Check.porters(24, 10, "number<24-#");
        PorterDoors x = Check.told(text);
        CHECK.due("P31 four nights of ten", x.nights(4), 40);
        CHECK.due("P11 the first of 40", x.kept(0, 0) * 100 + x.kept(0, 1), 0);
        CHECK.due("P11 all doors", x.kept(0, 2), 24);
        CHECK.due("P11 the last", x.kept(39, 0) * 10000 + x.kept(39, 1) * 100 + x.kept(39, 2), 30915);
        CHECK.due("P31 one more", x.nights(1), 10);
        CHECK.due("P11 ten are gone", x.kept(0, 0) * 10000 + x.kept(0, 1) * 100 + x.kept(0, 2), 10024);
        Check.become(x, 0, 3, 1, 230);
        CHECK.due("P38 nothing is kept", x.has(7), 0);
        x.nights(1);
        CHECK.due("P11 in night 998", x.kept(9, 0) * 10000 + x.kept(9, 1) * 100 + x.kept(9, 2), 9980915);
    }

    /** II "JAMMED, if stiff is above 0 and it has been turned as many times or more". */
    private static void stiffness() {
        int[][] jams = {{0, 0, 0}, {0, 1, 0}, {0, 99, 0}, {1, 0, 0}, {1, 1, 1}, {1, 2, 1}, {5, 4, 0}, {5, 5, 1},
            {5, 6, 1}, {98, 97, 0}, {98, 98, 1}, {98, 99, 1}, {99, 98, 0}, {99, 99, 1}};
        for (int[] jam : jams) {
            String name = "stiff " + jam[0] + ", turned " + jam[1];
            PorterDoors x = Check.told("doors 3;porter a turns all;stiff " + jam[0] + ";");
            Check.become(x, 6 + 3, jam[1]);
            CHECK.due("P8 jammed, " + name, x.door(1, 3), jam[2]);
            CHECK.due("P6 jammed ones, " + name, x.has(4), jam[2]);
            CHECK.due("IV jammed, " + name, Check.ask(x, "total jammed"), jam[2]);
            CHECK.due("P12 ahead, " + name, x.later(1), jam[2] == 1 ? 5 : 7);
            CHECK.due("P16 as if none were jammed, " + name, x.changes(1), 7);
            CHECK.due("P8 the orders, too, " + name, x.door(1, 4), 1);
            CHECK.due("P27 turned, " + name, x.send(0), 3 - jam[2]);
            CHECK.due("P8 as it was, " + name, x.door(1, 0), 1 - jam[2]);
        }
        for (int d = 0; d < 24; d++) {
            PorterDoors x = Check.told("doors 24;stiff 1;paint 0 9;paint 23 9;");
            CHECK.due("P6 none is jammed", x.has(4), 0);
            x.turn(d);
            CHECK.due("P6 one is jammed, " + d, x.has(4), 1);
            CHECK.due("P8 it is this one, " + d, x.door(d, 3), 1);
            CHECK.due("P28 the others are not, " + d, x.turn((d + 1) % 24), true);
            CHECK.due("P6 two are jammed, " + d, x.has(4), 2);
        }
        PorterDoors none = Check.told("doors 3;");
        CHECK.due("P6 without stiff none is jammed", none.has(4), 0);
        Check.become(none, 6, 99, 9, 99, 12, 99);
        CHECK.due("P6 without stiff none is ever jammed", none.has(4), 0);
    }

    /** A door jams between two porters of a night, and within nights ahead. */
    private static void jammedInAWalk() {
        PorterDoors x = Check.told("doors 3;porter a turns number<2;porter b turns number>0;"
                + "porter c turns number=1;stiff 2;");
        CHECK.due("P31 one night", x.nights(1), 3);
        CHECK.due("P11 a turns two", x.kept(0, 2), 2);
        CHECK.due("P11 b turns two", x.kept(1, 2), 2);
        CHECK.due("P11 c turns none", x.kept(2, 2), 0);
        CHECK.due("P12 open", x.later(0), 5);
        CHECK.due("P12 ahead", x.later(1), 0);
        CHECK.due("P12 ahead all are jammed", x.later(2), 0);
        CHECK.due("P6 one jammed", x.has(4), 1);
        CHECK.due("P28 it is", x.turn(1), false);
        CHECK.due("P28 the others", x.turn(0), true);
    }

    /** II "it has been turned once more (99 at most)". */
    private static void turnedMost() {
        PorterDoors x = Check.told("doors 2;porter a turns all;");
        Check.become(x, 6, 97, 9, 99);
        int[] due = {98, 99, 99, 99};
        for (int k = 0; k < due.length; k++) {
            CHECK.due("P28 by hand " + k, x.turn(0), true);
            CHECK.due("P8 turned " + k, x.door(0, 2), due[k]);
            CHECK.due("P8 open " + k, x.door(0, 0), 1 - k % 2);
        }
        CHECK.due("P27 sent", x.send(0), 2);
        CHECK.due("P8 sent, 99 at most", x.door(0, 2) * 100 + x.door(1, 2), 9999);
        CHECK.due("P8 sent, it is turned", x.door(0, 0) + x.door(1, 0), 2);
        x.nights(1);
        CHECK.due("P8 by night, 99 at most", x.door(0, 2) * 100 + x.door(1, 2), 9999);
        CHECK.due("P11 it is turned", x.kept(0, 2), 2);
        CHECK.due("P12 shut", x.later(0), 0);
        CHECK.due("P29 oiled", x.oil(0), true);
        CHECK.due("P8 none", x.door(0, 2), 0);
        x.turn(0);
        CHECK.due("P8 one", x.door(0, 2), 1);
    }

    /** II "and is tired by one more (99 at most), else by 0". */
    private static void tiredMost() {
        PorterDoors x = Check.told("doors 2;porter a turns not all;porter b turns not all;"
                + "walks who=0 or night=999 or night<2;");
        Check.become(x, 11, 97, 12, 99);
        int[][] due = {{98, 99}, {99, 99}, {99, 0}, {99, 0}};
        for (int[] tired : due) {
            x.nights(1);
            CHECK.due("P9 a is tired", x.porter(0, 0), tired[0]);
            CHECK.due("P9 b is tired", x.porter(1, 0), tired[1]);
        }
        x.send(0);
        x.send(1);
        CHECK.due("P27 no more tired by it", x.porter(0, 0) * 100 + x.porter(1, 0), 9900);
        Check.become(x, 11, 5, 12, 6);
        x.send(0);
        CHECK.due("P27 nor less", x.porter(0, 0) * 100 + x.porter(1, 0), 506);
    }

    /** II "if the TEST of walks holds by what is so then": open doors, tired of the nights before. */
    private static void byWhatIsSoThen() {
        PorterDoors x = Check.told("doors 3;porter a turns all;porter b turns number=0;porter c turns number=1;"
                + "walks who<1 and opened=0 or who=1 and opened=3 or who=2 and opened=2;");
        CHECK.due("P9 a alone as all is now", x.porter(0, 2) * 4 + x.porter(1, 2) * 2 + x.porter(2, 2), 4);
        CHECK.due("P31 each is let by the one ahead", x.nights(1), 3);
        CHECK.due("P12 open", x.later(0), 4);
        PorterDoors y = Check.told("doors 2;porter a turns all;porter b turns all;walks tired<1;");
        CHECK.due("P31 every other night", y.nights(5), 6);
        CHECK.due("P9 tired", y.porter(0, 0), 1);
        CHECK.due("P31 not now", y.nights(1), 0);
        CHECK.due("P9 rested", y.porter(0, 0), 0);
        // the cold comes by the doors as they are when all have walked, the night is one more behind it
        PorterDoors z = Check.told("doors 2;porter a turns number=night;cold night*20+open*3+turned;");
        CHECK.due("P13 one", z.cold(1), 4);
        CHECK.due("P13 two", z.cold(2), 4 + 24 + 24);
    }

    /** I "Without: walks is all, cold is open." */
    private static void without() {
        String text = "doors 3;porter a turns number<2;porter b turns number=0;open 2;";
        PorterDoors told = Check.told(text + "walks all;cold open;");
        PorterDoors bare = Check.told(text);
        CHECK.due("P31 all walk", bare.nights(3), 6);
        CHECK.due("P31 all walk, told", told.nights(3), 6);
        // 1 and 2 are open, then 2, then 1 and 2
        CHECK.due("P6 the open ones", bare.has(5), 2 + 1 + 2);
        CHECK.due("P6 the open ones, told", told.has(5), 5);
        CHECK.due("P9 each is tired", bare.porter(0, 0) + bare.porter(1, 0), 6);
        CHECK.due("P9 each walks", bare.porter(0, 2) + bare.porter(1, 2), 2);
        PorterDoors one = Check.told(text + "walks who=1;");
        CHECK.due("P31 one alone", one.nights(3), 3);
        CHECK.due("P6 the open ones by him alone", one.has(5), 2 + 1 + 2);
        PorterDoors cold = Check.told(text + "cold 1;");
        CHECK.due("P31 all walk, another cold", cold.nights(3), 6);
        CHECK.due("P6 another cold", cold.has(5), 9);
    }

    /** II "the SUM of cold, 0 .. 99 (below is 0, above 99)". */
    private static void coldBounds() {
        String[] sums = {"0-9999*9999", "0-2", "0-1", "0", "1", "98", "99", "100", "101", "9999*9999"};
        int[] due = {0, 0, 0, 0, 1, 98, 99, 99, 99, 99};
        for (int k = 0; k < sums.length; k++) {
            PorterDoors x = Check.told("doors 3;cold " + sums[k] + ";");
            CHECK.due("P13 cold " + sums[k], x.cold(1), 3 * due[k]);
            x.nights(1);
            CHECK.due("P6 cold " + sums[k], x.has(5), 3 * due[k]);
        }
        // door by door: what is below 0 at one takes nothing away
        CHECK.due("P13 each for itself", Check.told("doors 3;cold number*100-99;").cold(1), 0 + 1 + 99);
    }

    /** II "comes to the COLD (999999 at most)": 999999 is 15, 66, 63. */
    private static void coldMost() {
        int[][] colds = {{61, 0, 999997}, {61, 1, 999999}, {61, 2, 999999}, {62, 0, 999998}, {62, 1, 999999},
            {63, 0, 999999}, {63, 1, 999999}, {0, 31, 999998}, {0, 32, 999999}, {0, 99, 999999}};
        for (int[] cold : colds) {
            PorterDoors x = Check.told("doors 2;cold " + cold[1] + ";");
            Check.become(x, 2, 15, 3, 66, 4, cold[0]);
            String name = "cold of " + (999936 + cold[0]) + " and twice " + cold[1];
            CHECK.due("P13 " + name, x.cold(1), cold[2]);
            x.nights(1);
            CHECK.due("P6 " + name, x.has(5), cold[2]);
            x.nights(100);
            CHECK.due("P6 for long, " + name, x.has(5), cold[1] == 0 ? cold[2] : 999999);
        }
        PorterDoors y = Check.told("doors 2;porter a turns all;cold 1;");
        Check.become(y, 2, 15, 3, 66, 4, 62);
        CHECK.due("P21 at most", y.rest(2, 1), 999999);
    }

    /** P12, P13: n NIGHTS AHEAD (0 .. 60). */
    private static void ahead() {
        PorterDoors x = Check.told("doors 2;porter a turns number=0;cold 1;");
        for (int n = 0; n <= 60; n++) {
            CHECK.due("P12 later " + n, x.later(n), n % 2);
            CHECK.due("P13 cold " + n, x.cold(n), 2 * n);
        }
        none("P12 later 61", x.later(61));
        none("P13 cold 61", x.cold(61));
        none("P12 later 62", x.later(62));
        for (int n : BEYOND) {
            none("P12 later " + n, x.later(n));
            none("P13 cold " + n, x.cold(n));
        }
        PorterDoors y = Check.told("doors 2;porter a turns number=0;cold 1;");
        CHECK.due("P13 60 at once", y.cold(60), 120);
        none("P13 61 behind it", y.cold(61));
        CHECK.due("P13 0 behind it", y.cold(0), 0);
        // without DRAWS, and nothing is done by asking
        PorterDoors z = Check.told("doors 2;porter a turns number=0;ill 100;");
        CHECK.due("P12 nobody is ill ahead", z.later(1), 1);
        CHECK.stays("P12 ahead", () -> moved(), q -> q.later(60) * 0 + q.cold(60) * 0 + q.back() * 0, 0, -1);
    }

    /** III "not beyond NIGHT 999". */
    private static void aheadToTheLastNight() {
        int[][] nights = {{938, 60}, {939, 60}, {940, 59}, {941, 58}, {997, 2}, {998, 1}, {999, 0}};
        for (int[] night : nights) {
            PorterDoors x = Check.atNight("doors 2;porter a turns night=" + (night[0] + night[1] - 1)
                    + ";cold 1;", night[0]);
            String name = " from night " + night[0];
            CHECK.due("P12 the most" + name, x.later(night[1]), night[1] == 0 ? 0 : 3);
            CHECK.due("P13 the most" + name, x.cold(night[1]), 2 * night[1]);
            none("P12 one more" + name, x.later(night[1] + 1));
            none("P13 one more" + name, x.cold(night[1] + 1));
            CHECK.due("P12 now" + name, x.later(0), 0);
            none("P12 far more" + name, x.later(Integer.MAX_VALUE));
            none("P13 below 0" + name, x.cold(-1));
        }
    }

    /** P14 "behind how many NIGHTS AHEAD (1 .. 60); NONE when it is not". */
    private static void back() {
        CHECK.due("P14 1 at least", Check.told("doors 2;").back(), 1);
        CHECK.due("P14 nobody turns", Check.told("doors 2;porter a turns not all;").back(), 1);
        CHECK.due("P14 in 2", Check.told("doors 2;porter a turns number=1;").back(), 2);
        for (int n = 2; n <= 62; n++) {
            PorterDoors x = Check.told("doors 2;porter a turns night=0 or night=" + (n - 1) + ";");
            CHECK.due("P14 in " + n, x.back(), n <= 60 ? n : NONE);
        }
        // the same doors, not as many
        CHECK.due("P14 just the same doors",
                Check.told("doors 3;porter a turns night=0 and number<2;open 0;").back(), NONE);
        // the fewest: all is as now in 2 and in 4
        CHECK.due("P14 the fewest", Check.told("doors 2;porter a turns all;").back(), 2);
        CHECK.due("P14 turned and cold may be others", Check.told("doors 2;cold 9;porter a turns all;").back(), 2);
        for (int night : new int[] {937, 939, 940, 996, 997, 998, 999}) {
            PorterDoors x = Check.atNight("doors 2;porter a turns all;", night);
            CHECK.due("P14 in night " + night, x.back(), night <= 997 ? 2 : NONE);
            PorterDoors y = Check.atNight("doors 2;porter a turns all;walks night=" + night + " or night=998;", night);
            CHECK.due("P14 on the last night from " + night, y.back(),
                    night == 998 || night == 999 || night < 939 ? NONE : 999 - night);
        }
        none("P14 without a corridor", new PorterDoors().back());
    }
}
