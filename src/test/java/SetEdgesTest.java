/** The edges of promises 15 to 26: rows, sets, who rests, odds, what is seen and who walked. */
public final class SetEdgesTest {
    private static final Check CHECK = new Check("SetEdgesTest");
    private static final int NONE = PorterDoors.NONE;
    private static final int[] BEYOND = {Integer.MIN_VALUE, Integer.MIN_VALUE + 1, -2, Integer.MAX_VALUE};

    public static void main(String[] args) {
        rows();
        changes();
        sendsArguments();
        sendsFewest();
        alike();
        alone();
        widest();
        restArguments();
        restLeast();
        oddsArguments();
        oddsCounts();
        seeRows();
        seeRefused();
        fits();
        walked();
        tells();
        nothingChanges();
        CHECK.finish();
    }

    private static void none(String call, long answer) {
        CHECK.due(call, answer, NONE);
    }

    /** So many porters, each of whom turns the door of his number. */
    private static String each(int doors, int porters) {
        return Check.porters(doors, porters, "number=#");
    }

    /** P15: from no open door to all of them, at both ends. */
    private static void rows() {
        String[] open = {"", "0", "1", "3", "0 1", "2 3", "0 2", "0 3", "0 1 3", "0 2 3", "1 2", "0 1 2", "1 2 3",
            "0 1 2 3"};
        int[] due = {0, 1, 1, 1, 2, 2, 1, 1, 2, 2, 2, 3, 3, 4};
        for (int k = 0; k < open.length; k++) {
            String text = open[k].isEmpty() ? "" : "open " + open[k].replace(" ", ";open ") + ";";
            CHECK.due("P15 open " + open[k], Check.told("doors 4;" + text).row(), due[k]);
        }
        PorterDoors x = Check.told("doors 24;porter a turns all;");
        x.send(0);
        CHECK.due("P15 24", x.row(), 24);
        x.turn(0);
        CHECK.due("P15 23 at the end", x.row(), 23);
        x.turn(0);
        x.turn(23);
        CHECK.due("P15 23 at the beginning", x.row(), 23);
        x.turn(12);
        CHECK.due("P15 12 and 10", x.row(), 12);
        none("P15 without a corridor", new PorterDoors().row());
    }

    /** P16: SETS are 0 .. 2 to the porters, less 1. */
    private static void changes() {
        for (int porters : new int[] {0, 1, 2, 9, 10}) {
            PorterDoors x = Check.told(each(12, porters));
            int sets = 1 << porters;
            CHECK.due("P16 nobody of " + porters, x.changes(0), 0);
            CHECK.due("P16 everybody of " + porters, x.changes(sets - 1), sets - 1);
            none("P16 one more than all of " + porters, x.changes(sets));
            none("P16 one below 0 of " + porters, x.changes(-1));
            for (int set : BEYOND) {
                none("P16 set " + set + " of " + porters, x.changes(set));
            }
        }
        PorterDoors x = Check.told("doors 24;porter a turns all;porter b turns number=23;porter c turns number<1;");
        int all = (1 << 24) - 1;
        int[] due = {0, all, 1 << 23, all >> 1, 1, all - 1, 1 << 23 | 1, all - 1 - (1 << 23)};
        for (int set = 0; set < 8; set++) {
            CHECK.due("P16 an odd number of them, " + set, x.changes(set), due[set]);
        }
        none("P16 none such", x.changes(8));
        PorterDoors jammed = Check.told("doors 2;porter a turns all;stiff 1;");
        jammed.send(0);
        CHECK.due("P16 as if none were jammed", jammed.changes(1), 3);
        PorterDoors night = Check.atNight("doors 2;porter a turns night=998 and number=1;", 998);
        CHECK.due("P16 now", night.changes(1), 2);
        night.nights(1);
        CHECK.due("P16 and no more", night.changes(1), 0);
    }

    /** P17 "NONE ... when there are none such (one to be open that is not asked of, too)". */
    private static void sendsArguments() {
        for (int doors : new int[] {2, 3, 23, 24}) {
            PorterDoors x = Check.told("doors " + doors + ";porter a turns all;open " + (doors - 1) + ";");
            int all = (1 << doors) - 1;
            int last = 1 << doors - 1;
            CHECK.due("P17 none asked of, " + doors, x.sends(0, 0), 0);
            CHECK.due("P17 all, as they are, " + doors, x.sends(all, last), 0);
            CHECK.due("P17 all, the others, " + doors, x.sends(all, all - last), 1);
            CHECK.due("P17 the last one, open, " + doors, x.sends(last, last), 0);
            CHECK.due("P17 the last one, shut, " + doors, x.sends(last, 0), 1);
            none("P17 no set, " + doors, x.sends(all, all));
            none("P17 one door too many, " + doors, x.sends(all + 1, 0));
            none("P17 the one behind the last, " + doors, x.sends(all + 1 + last, last));
            none("P17 it is to be open, " + doors, x.sends(all, all + 1));
            none("P17 both, " + doors, x.sends(all + 1, all + 1));
            none("P17 open, not asked of, " + doors, x.sends(0, 1));
            none("P17 open, not asked of but open, " + doors, x.sends(1, last));
            none("P17 one of two not asked of, " + doors, x.sends(last, last + 1));
            for (int bits : new int[] {-1, Integer.MIN_VALUE, Integer.MAX_VALUE, 1 << 24, 1 << 30}) {
                none("P17 asked " + bits, x.sends(bits, 0));
                none("P17 asked and open " + bits, x.sends(bits, bits));
                none("P17 open " + bits, x.sends(all, bits));
            }
        }
        PorterDoors nobody = Check.told("doors 2;open 1;");
        CHECK.due("P17 nobody there, all is so", nobody.sends(3, 2), 0);
        none("P17 nobody there", nobody.sends(3, 3));
        none("P17 without a corridor", new PorterDoors().sends(0, 0));
    }

    /** III "the fewest PORTERS ...; of like ones the least bits". */
    private static void sendsFewest() {
        // orders 1, 2, 4, 3, 7
        PorterDoors x = Check.told("doors 3;porter a turns number=0;porter b turns number=1;porter c turns number=2;"
                + "porter d turns number<2;porter e turns all;");
        CHECK.due("P17 one of the five", x.sends(7, 7), 16);
        CHECK.due("P17 one instead of two", x.sends(7, 3), 8);
        CHECK.due("P17 two: b and c, not a and e, of the least bits", x.sends(7, 6), 6);
        CHECK.due("P17 of like ones the least bits", x.sends(1, 1), 1);
        CHECK.due("P17 one of b, d, e", x.sends(2, 2), 2);
        CHECK.due("P17 0 and 1, what is with 2", x.sends(3, 3), 8);
        CHECK.due("P17 1 and 2, what is with 0", x.sends(6, 6), 16);
        // more bits, but fewer porters
        PorterDoors y = Check.told("doors 3;porter a turns number=0;porter b turns number>0;porter c turns all;");
        CHECK.due("P17 fewer porters go ahead of fewer bits", y.sends(7, 7), 4);
        PorterDoors z = Check.told("doors 3;porter a turns all;porter b turns number>0;porter c turns number<1;");
        CHECK.due("P17 a alone", z.sends(7, 7), 1);
    }

    /** P18 "that of nobody, too". */
    private static void alike() {
        CHECK.due("P18 nobody there", Check.told("doors 2;").alike(), 1);
        CHECK.due("P18 one who turns", Check.told("doors 2;porter a turns all;").alike(), 1);
        CHECK.due("P18 one who does not", Check.told("doors 2;porter a turns not all;").alike(), 2);
        CHECK.due("P18 two alike", Check.told("doors 2;porter a turns all;porter b turns all;").alike(), 2);
        CHECK.due("P18 three alike",
                Check.told("doors 2;porter a turns all;porter b turns all;porter c turns all;").alike(), 4);
        CHECK.due("P18 ten unlike", Check.told(each(10, 10)).alike(), 1);
        CHECK.due("P18 ten who turn none", Check.told(Check.porters(10, 10, "number>9+#")).alike(), 1024);
        PorterDoors last = Check.told("doors 24;porter a turns number=23;porter b turns number=22;");
        CHECK.due("P18 the last door counts", last.alike(), 1);
        none("P18 without a corridor", new PorterDoors().alike());
    }

    private static void alone() {
        PorterDoors x = Check.told("doors 3;porter a turns all;porter b turns number>0;porter c turns number<2;");
        CHECK.due("P19 the first door", x.alone(0), 3);
        none("P19 no set for the one in between", Check.told("doors 3;porter a turns all;").alone(1));
        CHECK.due("P19 two of three", x.alone(2), 5);
        CHECK.due("P19 all three", x.alone(1), 7);
        none("P19 none such", x.alone(3));
        none("P19 below 0", x.alone(-1));
        for (int door : BEYOND) {
            none("P19 door " + door, x.alone(door));
        }
        PorterDoors y = Check.told(each(24, 10));
        CHECK.due("P19 the tenth", y.alone(9), 512);
        none("P19 of nobody's order", y.alone(10));
        none("P19 the last, of nobody's order", y.alone(23));
        none("P19 door 24", y.alone(24));
        none("P19 door 32", y.alone(32));
        PorterDoors last = Check.told("doors 24;porter a turns number=23;porter b turns number=23;");
        CHECK.due("P19 of like ones the least bits", last.alone(23), 1);
        CHECK.due("P19 open or shut", Check.told("doors 2;porter a turns number=1;open 1;").alone(1), 1);
        CHECK.due("P19 fewer porters first", Check.told("doors 2;porter a turns all;porter b turns number=0;"
                + "porter c turns number=1;").alone(1), 4);
        none("P19 without a corridor", new PorterDoors().alone(0));
    }

    /** III "of like ones the one of the fewest PORTERS, then the least bits". */
    private static void widest() {
        PorterDoors x = Check.told("doors 4;porter a turns number=0;porter b turns number=1;porter c turns number<2;"
                + "porter d turns number<2 and number>0-1;open 3;");
        CHECK.due("P20 one, the least bits", x.widest(0), 4);
        CHECK.due("P20 three open", x.widest(1), 3);
        for (int what : BEYOND) {
            none("P20 what " + what, x.widest(what));
        }
        none("P20 what 2", x.widest(2));
        none("P20 what -1", x.widest(-1));
        CHECK.due("P20 the first set", Check.told("doors 2;porter a turns all;").widest(0), 1);
        CHECK.due("P20 the first of two alike",
                Check.told("doors 2;porter a turns all;porter b turns all;").widest(0), 1);
        PorterDoors ten = Check.told(each(10, 10));
        CHECK.due("P20 the last set", ten.widest(0), 1023);
        CHECK.due("P20 ten open", ten.widest(1), 10);
        CHECK.due("P20 nobody, where nobody does better",
                Check.told("doors 2;porter a turns number=0;porter b turns not all;open 0;").widest(0), 0);
        CHECK.due("P20 none open", Check.told("doors 2;").widest(1), 0);
        CHECK.due("P20 one is enough", Check.told("doors 2;porter a turns not all;porter b turns number=1;")
                .widest(1), 1);
        PorterDoors y = Check.told("doors 24;porter a turns number<23;porter b turns number=23;");
        CHECK.due("P20 24 open", y.widest(1), 24);
        CHECK.due("P20 by both", y.widest(0), 3);
        CHECK.due("P20 as many shut as opened", Check.told("doors 2;porter a turns all;open 1;").widest(0), 0);
        none("P20 without a corridor", new PorterDoors().widest(0));
        none("P20 without a corridor, 1", new PorterDoors().widest(1));
    }

    /** P21 "n NIGHTS (1 .. 40)", "NONE without PORTERS, when n can't be, or for others". */
    private static void restArguments() {
        PorterDoors x = Check.told("doors 2;porter a turns not all;cold 1;");
        for (int n : new int[] {1, 2, 39, 40}) {
            CHECK.due("P21 for " + n, x.rest(n, 0), 0);
            CHECK.due("P21 cold for " + n, x.rest(n, 1), 2 * n);
            none("P21 what 2 for " + n, x.rest(n, 2));
            none("P21 what -1 for " + n, x.rest(n, -1));
            for (int what : BEYOND) {
                none("P21 what " + what, x.rest(n, what));
            }
        }
        for (int n : new int[] {-1, 0, 41, 42, 60}) {
            none("P21 for " + n, x.rest(n, 0));
            none("P21 cold for " + n, x.rest(n, 1));
        }
        for (int n : BEYOND) {
            none("P21 for " + n, x.rest(n, 0));
        }
        int[][] nights = {{958, 40}, {959, 40}, {960, 39}, {998, 1}, {999, 0}};
        for (int[] night : nights) {
            PorterDoors y = Check.atNight("doors 2;porter a turns not all;cold 1;", night[0]);
            if (night[1] > 0) {
                CHECK.due("P21 to night 999 from " + night[0], y.rest(night[1], 1), 2 * night[1]);
            }
            none("P21 beyond it from " + night[0], y.rest(night[1] + 1, 1));
        }
        none("P21 without porters", Check.told("doors 2;").rest(1, 0));
        none("P21 without porters, the cold", Check.told("doors 2;").rest(1, 1));
        none("P21 without a corridor", new PorterDoors().rest(1, 1));
    }

    /** III "it is least COLD behind them; of like ones the first"; "(tired by 0)". */
    private static void restLeast() {
        PorterDoors x = Check.told("doors 3;porter a turns number=0;porter b turns number>0;porter c turns number>1;");
        // without a 1 is open; without b 0 and 2 are; without c all are
        CHECK.due("P21 of like ones the first", Check.told("doors 3;porter a turns number=0;porter b turns number=1;"
                + "porter c turns number=2;").rest(1, 0), 0);
        CHECK.due("P21 without a", x.rest(1, 0), 0);
        CHECK.due("P21 one is open then", x.rest(1, 1), 1);
        CHECK.due("P21 the first of the like ones who is better",
                Check.told("doors 3;porter a turns not all;porter b turns all;porter c turns all;open 0;open 1;open 2;").rest(1, 0), 1);
        // without a: 1 and 2 are open, then again; without b: 0 is open, then 1 and 2
        PorterDoors y = Check.told("doors 3;porter a turns night=1 or number=0;porter b turns night=0 and number>0;");
        CHECK.due("P21 for one", y.rest(1, 0), 1);
        CHECK.due("P21 cold for one", y.rest(1, 1), 1);
        CHECK.due("P21 for two", y.rest(2, 1), 3);
        CHECK.due("P21 b for two: 1 + 2, without a it is 2 + 2", y.rest(2, 0), 1);
        // tired by 0: a who rests is not tired, so what he would do then is not done
        PorterDoors z = Check.told("doors 2;porter a turns all;porter b turns not all;walks who=1 or tired=0;");
        CHECK.due("P21 the last one", z.rest(3, 0), 0);
        CHECK.due("P21 nothing is open without a", z.rest(3, 1), 0);
        CHECK.due("P21 without the first porter", Check.told("doors 2;porter a turns all;porter b turns not all;"
                + "porter c turns not all;").rest(1, 0), 0);
        PorterDoors shuts = Check.told("doors 2;porter a turns all;open 0;open 1;");
        CHECK.due("P21 somebody rests, though nobody had better", shuts.rest(1, 0), 0);
        CHECK.due("P21 without him it is colder", shuts.rest(1, 1), 2);
        PorterDoors ten = Check.told(each(10, 10) + "cold open*number;");
        CHECK.due("P21 the tenth", ten.rest(1, 0), 9);
        CHECK.due("P21 0 .. 8 are open without him", ten.rest(1, 1), 36);
        CHECK.due("P21 without the last porter", Check.told("doors 2;porter a turns not all;porter b turns not all;"
                + "porter c turns all;").rest(1, 0), 2);
        // who rests has no nights behind him then: it is told by another who looks for open doors
        PorterDoors t = Check.told("doors 2;porter a turns all;walks tired>0;");
        Check.become(t, 11, 5);
        CHECK.due("P21 tired by 0 behind the first", t.rest(2, 1), 0);
        CHECK.due("P21 he stays as tired as he is now", t.porter(0, 0), 5);
        CHECK.due("P13 if he walks", t.cold(2), 2);
    }

    /** P22 "all rows for the DOOR NONE. NONE when there is none such, without PORTERS, or at NIGHT 999". */
    private static void oddsArguments() {
        PorterDoors x = Check.told("doors 3;porter a turns all;porter b turns all;open 2;ill 10;");
        CHECK.due("P22 all rows", x.odds(NONE), 200);
        CHECK.due("P22 the first door", x.odds(0), 20);
        CHECK.due("P22 the last door", x.odds(2), 180);
        none("P22 none such", x.odds(3));
        for (int door : BEYOND) {
            none("P22 door " + door, x.odds(door));
        }
        for (int porters : new int[] {1, 9, 10}) {
            CHECK.due("P22 rows of " + porters, Check.told(each(10, porters)).odds(NONE), 100 * porters);
        }
        none("P22 without porters", Check.told("doors 2;open 1;ill 5;").odds(1));
        none("P22 rows without porters", Check.told("doors 2;open 1;").odds(NONE));
        none("P22 without a corridor", new PorterDoors().odds(NONE));
        for (int night : new int[] {997, 998, 999}) {
            PorterDoors y = Check.atNight("doors 2;porter a turns number=0 and night=" + night + ";open 1;", night);
            CHECK.due("P22 rows at night " + night, y.odds(NONE), night == 999 ? NONE : 100);
            CHECK.due("P22 at night " + night, y.odds(0), night == 999 ? NONE : 100);
            CHECK.due("P22 another at night " + night, y.odds(1), night == 999 ? NONE : 100);
            none("P22 none such at night " + night, y.odds(2));
        }
    }

    /** III "by how many of all rows of a number below 100, a PORTER". */
    private static void oddsCounts() {
        for (int ill : new int[] {0, 1, 2, 49, 50, 98, 99, 100}) {
            PorterDoors x = Check.told("doors 4;porter a turns number=0;porter b turns number<2;"
                    + "porter c turns not all;open 3;ill " + ill + ";");
            // all walk: 1 is open; without a: 0, 1; without b: 0; without c as if all did
            CHECK.due("P22 opened by two, ill " + ill, x.odds(0), 2 * ill);
            CHECK.due("P22 opened by b, ill " + ill, x.odds(1), 300 - ill);
            CHECK.due("P22 shut, ill " + ill, x.odds(2), 0);
            CHECK.due("P22 open, ill " + ill, x.odds(3), 300);
        }
        PorterDoors tired = Check.told("doors 2;porter a turns all;walks tired<1;ill 30;");
        tired.nights(1);
        CHECK.due("P22 who does not walk anyway", tired.odds(0), 100);
        tired.nights(1);
        CHECK.due("P22 he walks by 70", tired.odds(0), 30);
        PorterDoors jams = Check.told("doors 2;porter a turns all;porter b turns all;stiff 1;ill 40;");
        CHECK.due("P22 jammed behind one of both", jams.odds(0), 200);
    }

    private static int[] rows(int many, int door, int open) {
        int[] rows = new int[2 * many];
        for (int k = 0; k < many; k++) {
            rows[2 * k] = door;
            rows[2 * k + 1] = open;
        }
        return rows;
    }

    private static int seen(PorterDoors x, int... bytes) {
        Check.tape(x, bytes);
        return x.see();
    }

    /** P23 "1 to 24 rows of two bytes: how many rows". */
    private static void seeRows() {
        for (int many : new int[] {1, 2, 23, 24}) {
            PorterDoors x = Check.told("doors 3;porter a turns number=2;");
            CHECK.due("P23 rows " + many, seen(x, rows(many, 2, 1)), many);
            CHECK.due("P6 seen " + many, x.has(8), many);
            CHECK.due("P24 fits " + many, x.fits(0), 1);
            CHECK.due("P39 not refused", x.status(1), 0);
        }
        PorterDoors x = Check.told("doors 24;porter a turns number=23;porter b turns number=22;");
        CHECK.due("P23 the last door", seen(x, 23, 1), 1);
        CHECK.due("P24 a, or both", x.fits(NONE), 2);
        CHECK.due("P23 the first door", seen(x, 0, 0), 1);
        CHECK.due("P24 each", x.fits(NONE), 4);
        CHECK.due("P23 the last row counts, too", seen(x, 0, 0, 1, 0, 22, 1), 3);
        CHECK.due("P24 b, or both", x.fits(0), 2);
        int[] all = new int[48];
        for (int d = 0; d < 24; d++) {
            all[2 * d] = d;
            all[2 * d + 1] = d / 22;
        }
        CHECK.due("P23 each of 24 doors", seen(x, all), 24);
        CHECK.due("P24 both", x.fits(0), 3);
        CHECK.due("P24 they alone", x.fits(NONE), 1);
        CHECK.due("P23 what is seen is seen anew", seen(x, 5, 0), 1);
        CHECK.due("P24 each again", x.fits(NONE), 4);
    }

    private static PorterDoors seeing() {
        PorterDoors x = Check.told("doors 3;porter a turns number=2;porter b turns all;open 1;ill 50;");
        Check.see(x, 2, 1, 1, 0);
        x.nights(2);
        return x;
    }

    /** P23 "NONE, refused (1), all staying, when it is none such". */
    private static void seeRefused() {
        int[][] refused = {{}, {0}, {0, 1, 2}, rows(25, 0, 0), rows(26, 0, 0), rows(800, 0, 0), {3, 0}, {3, 1},
            {255, 0}, {0, 2}, {0, 3}, {0, 255}, {0, 0, 1, 2}, {0, 0, 3, 0}, {1, 2, 0, 0}, {3, 0, 0, 0}, {2, 1, 1, 0, 0},
            java.util.Arrays.copyOf(rows(24, 0, 0), 47), java.util.Arrays.copyOf(rows(25, 0, 0), 49)};
        for (int[] bytes : refused) {
            String name = "P23 " + bytes.length + " bytes " + (bytes.length < 8 ? java.util.Arrays.toString(bytes) : "");
            CHECK.stays(name, SetEdgesTest::seeing, x -> seen(x, bytes), NONE, 1);
        }
        for (int doors : new int[] {2, 23, 24}) {
            PorterDoors x = Check.told("doors " + doors + ";");
            CHECK.due("P23 the last of " + doors, seen(x, doors - 1, 0), 1);
            CHECK.due("P23 one behind it", seen(x, doors, 0), NONE);
            CHECK.due("P23 open", seen(x, doors - 1, 1), 1);
            CHECK.due("P23 neither", seen(x, doors - 1, 2), NONE);
        }
        PorterDoors x = seeing();
        CHECK.due("P33 undone", x.undo(), true);
        CHECK.due("P33 what is seen is no act", x.has(8), 2);
        CHECK.due("P33 no other act", x.undo(), false);
    }

    /** P24 "how many (k NONE), the k-th SET, rising. NONE when there is none such". */
    private static void fits() {
        for (int porters : new int[] {0, 1, 9, 10}) {
            PorterDoors x = Check.told(each(10, porters));
            int sets = 1 << porters;
            CHECK.due("P24 all SETS, if nothing is", x.fits(NONE), sets);
            CHECK.due("P24 the first", x.fits(0), 0);
            CHECK.due("P24 the last", x.fits(sets - 1), sets - 1);
            none("P24 one more", x.fits(sets));
            none("P24 below", x.fits(-2));
            for (int k : BEYOND) {
                none("P24 k " + k, x.fits(k));
            }
        }
        PorterDoors x = Check.told(each(10, 10));
        seen(x, 9, 1);
        CHECK.due("P24 half of them", x.fits(NONE), 512);
        CHECK.due("P24 the least of these", x.fits(0), 512);
        CHECK.due("P24 the greatest of these", x.fits(511), 1023);
        none("P24 one more of these", x.fits(512));
        seen(x, 9, 0, 0, 1);
        int[] due = {1, 3, 5, 7};
        for (int k = 0; k < 4; k++) {
            CHECK.due("P24 rising " + k, x.fits(k), due[k]);
        }
        CHECK.due("P24 the last of these", x.fits(255), 511);
        none("P24 none behind", x.fits(256));
        seen(x, 0, 1, 0, 0);
        CHECK.due("P24 no such sets", x.fits(NONE), 0);
        none("P24 no first", x.fits(0));
        none("P24 without a corridor", new PorterDoors().fits(NONE));
        none("P24 without a corridor, k 0", new PorterDoors().fits(0));
    }

    /** P25 "1 he is of all FITS, 2 he is of none, 0 he is of some". */
    private static void walked() {
        PorterDoors x = Check.told("doors 3;porter a turns number=0;porter b turns number=1;porter c turns number=1;");
        seen(x, 0, 1, 1, 1);
        // fits are a and b, a and c
        CHECK.due("P25 of all", x.walked(0), 1);
        CHECK.due("P25 of some", x.walked(1), 0);
        CHECK.due("P25 of others", x.walked(2), 0);
        seen(x, 0, 0);
        CHECK.due("P25 of none", x.walked(0), 2);
        seen(x, 1, 1);
        CHECK.due("P25 of half", x.walked(0), 0);
        none("P25 none such", x.walked(3));
        none("P25 below 0", x.walked(-1));
        for (int porter : BEYOND) {
            none("P25 porter " + porter, x.walked(porter));
        }
        seen(x, 2, 1);
        none("P25 without fits", x.walked(0));
        PorterDoors one = Check.told("doors 2;porter a turns all;");
        seen(one, 1, 1);
        CHECK.due("P25 of the only one", one.walked(0), 1);
        seen(one, 1, 0);
        CHECK.due("P25 not of the only one", one.walked(0), 2);
        PorterDoors ten = Check.told(each(10, 10));
        CHECK.due("P25 the tenth of some", ten.walked(9), 0);
        seen(ten, 9, 1);
        CHECK.due("P25 the tenth of all", ten.walked(9), 1);
        none("P25 the eleventh", ten.walked(10));
        none("P25 nobody there", Check.told("doors 2;").walked(0));
    }

    /** P26 "the DOOR (what 0), how many FITS are left at the most (1)"; III "of like ones the first". */
    private static void tells() {
        PorterDoors x = Check.told("doors 4;porter a turns number=2;porter b turns number>1;porter c turns number>0;");
        CHECK.due("P26 the first that parts them", x.tells(0), 1);
        CHECK.due("P26 four of eight are left", x.tells(1), 4);
        none("P26 what 2", x.tells(2));
        none("P26 what -1", x.tells(-1));
        for (int what : BEYOND) {
            none("P26 what " + what, x.tells(what));
        }
        PorterDoors first = Check.told("doors 2;porter a turns number=0;porter b turns number=1;");
        CHECK.due("P26 the first door", first.tells(0), 0);
        CHECK.due("P26 two of four are left", first.tells(1), 2);
        seen(x, 1, 1);
        CHECK.due("P26 then another", x.tells(0), 2);
        CHECK.due("P26 two of four", x.tells(1), 2);
        seen(x, 1, 1, 2, 0);
        CHECK.due("P26 then the last", x.tells(0), 3);
        CHECK.due("P26 one of two", x.tells(1), 1);
        seen(x, 1, 1, 2, 0, 3, 0);
        CHECK.due("P26 nothing more to tell", x.tells(0), 0);
        CHECK.due("P26 the one is left", x.tells(1), 1);
        seen(x, 0, 1);
        none("P26 without fits", x.tells(0));
        none("P26 without fits, how many", x.tells(1));
        // a door that parts three of four tells less than one that parts two
        PorterDoors y = Check.told("doors 3;porter a turns all;porter b turns all;porter c turns number=2;");
        seen(y, 0, 0);
        CHECK.due("P26 the more telling one", y.tells(0), 2);
        PorterDoors nobody = Check.told("doors 2;open 1;");
        CHECK.due("P26 the set of nobody", nobody.tells(0) * 10 + nobody.tells(1), 1);
        PorterDoors last = Check.told("doors 24;porter a turns number=23;");
        CHECK.due("P26 the last door", last.tells(0), 23);
        none("P26 without a corridor", new PorterDoors().tells(0));
        none("P26 without a corridor, 1", new PorterDoors().tells(1));
    }

    /** What is asked about sets changes nothing, whatever it answers. */
    private static void nothingChanges() {
        CHECK.stays("P16 none such", SetEdgesTest::seeing, x -> x.changes(4), NONE, -1);
        CHECK.stays("P17 none such", SetEdgesTest::seeing, x -> x.sends(8, 8), NONE, -1);
        CHECK.stays("P19 none such", SetEdgesTest::seeing, x -> x.alone(3), NONE, -1);
        CHECK.stays("P20 none such", SetEdgesTest::seeing, x -> x.widest(2), NONE, -1);
        CHECK.stays("P21 none such", SetEdgesTest::seeing, x -> x.rest(41, 0), NONE, -1);
        CHECK.stays("P21 40 nights", SetEdgesTest::seeing, x -> x.rest(40, 0) * 0, 0, -1);
        CHECK.stays("P22 none such", SetEdgesTest::seeing, x -> x.odds(3), NONE, -1);
        CHECK.stays("P22 odds", SetEdgesTest::seeing, x -> x.odds(2) * 0, 0, -1);
        CHECK.stays("P24 none such", SetEdgesTest::seeing, x -> x.fits(4), NONE, -1);
        CHECK.stays("P25 none such", SetEdgesTest::seeing, x -> x.walked(2), NONE, -1);
        CHECK.stays("P26 none such", SetEdgesTest::seeing, x -> x.tells(2), NONE, -1);
    }
}
