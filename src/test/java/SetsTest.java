/** Promises 15 to 26: rows, sets of porters, who is to rest, odds, who walked. */
public final class SetsTest {
    private static final Check CHECK = new Check("SetsTest");
    // the orders are 3, 6, 2, 7; the doors that are open are 2
    private static final String FOUR = "doors 3;porter a turns number<2;porter b turns number>0;"
            + "porter c turns number=1;porter d turns all;open 1;";

    public static void main(String[] args) {
        rows();
        changes();
        sends();
        alike();
        alone();
        widest();
        rest();
        odds();
        see();
        fits();
        walked();
        tells();
        moved();
        CHECK.finish();
    }

    private static void rows() {
        CHECK.due("P15 none open", Check.told("doors 4;").row(), 0);
        CHECK.due("P15 one", Check.told("doors 4;open 2;").row(), 1);
        CHECK.due("P15 the longest", Check.told("doors 9;open 0;open 1;open 3;open 4;open 5;open 7;").row(), 3);
        CHECK.due("P15 at the end", Check.told("doors 4;open 0;open 2;open 3;").row(), 2);
        PorterDoors x = Check.told("doors 24;porter a turns all;");
        x.send(0);
        CHECK.due("P15 all", x.row(), 24);
        x.turn(11);
        CHECK.due("P15 one shut", x.row(), 12);
    }

    private static void changes() {
        PorterDoors x = Check.told(FOUR);
        int[] due = {0, 3, 6, 5, 2, 1, 4, 7, 7, 4, 1, 2, 5, 6, 3, 0};
        for (int set = 0; set < 16; set++) {
            CHECK.due("P16 set " + set, x.changes(set), due[set]);
        }
        CHECK.due("P16 none such", x.changes(16), -1);
        CHECK.due("P16 below 0", x.changes(-1), -1);
        PorterDoors y = Check.told("doors 3;porter a turns all;stiff 1;");
        y.send(0);
        CHECK.due("P6 all jammed", y.has(4), 3);
        CHECK.due("P16 as if none were jammed", y.changes(1), 7);
        PorterDoors z = Check.told("doors 2;");
        CHECK.due("P16 nobody", z.changes(0), 0);
        CHECK.due("P16 nobody else", z.changes(1), -1);
        PorterDoors ten = Check.told(ten());
        CHECK.due("P16 ten", ten.changes(1023), 1023);
        CHECK.due("P16 some of ten", ten.changes(0x2a5), 0x2a5);
        CHECK.due("P16 beyond ten", ten.changes(1024), -1);
        PorterDoors n = Check.told("doors 3;porter a turns number=night;");
        n.nights(2);
        CHECK.due("P16 now", n.changes(1), 4);
    }

    private static String ten() {
        StringBuilder text = new StringBuilder("doors 10;");
        for (int k = 0; k < 10; k++) {
            text.append("porter ").append((char) ('a' + k)).append(" turns number=").append(k).append(';');
        }
        return text.toString();
    }

    private static void sends() {
        PorterDoors x = Check.told(FOUR);
        CHECK.due("P17 nobody for none", x.sends(0, 0), 0);
        CHECK.due("P17 nobody, all is so", x.sends(7, 2), 0);
        CHECK.due("P17 all open", x.sends(7, 7), 3);
        CHECK.due("P17 all shut", x.sends(7, 0), 4);
        CHECK.due("P17 the first of two single ones", x.sends(4, 4), 2);
        CHECK.due("P17 door 0", x.sends(1, 1), 1);
        CHECK.due("P17 doors 0 and 1", x.sends(3, 1), 1);
        CHECK.due("P17 doors 0 and 2", x.sends(5, 5), 8);
        CHECK.due("P17 to be open, not asked of", x.sends(4, 6), -1);
        CHECK.due("P17 none such", x.sends(8, 0), -1);
        CHECK.due("P17 none such open", x.sends(7, 8), -1);
        CHECK.due("P17 below 0", x.sends(-1, 0), -1);
        CHECK.due("P17 open below 0", x.sends(7, -1), -1);
        CHECK.due("P17 without a corridor", new PorterDoors().sends(0, 0), -1);
        PorterDoors y = Check.told("doors 3;porter a turns number<2;");
        CHECK.due("P17 no set", y.sends(7, 1), -1);
        CHECK.due("P17 what is not asked of is free", y.sends(5, 1), 1);
    }

    private static void alike() {
        CHECK.due("P18 two", Check.told(FOUR).alike(), 2);
        CHECK.due("P18 one", Check.told(ten()).alike(), 1);
        CHECK.due("P18 nobody there", Check.told("doors 2;").alike(), 1);
        CHECK.due("P18 all of three", Check.told("doors 2;porter a turns not all;porter b turns not all;"
                + "porter c turns not all;").alike(), 8);
        CHECK.due("P18 without a corridor", new PorterDoors().alike(), -1);
    }

    private static void alone() {
        PorterDoors x = Check.told(FOUR);
        CHECK.due("P19 the least bits of two", x.alone(0), 5);
        CHECK.due("P19 one porter", x.alone(1), 4);
        CHECK.due("P19 the last", x.alone(2), 6);
        CHECK.due("P19 none such", x.alone(3), -1);
        CHECK.due("P19 below 0", x.alone(-1), -1);
        CHECK.due("P19 no set", Check.told("doors 2;porter a turns all;").alone(0), -1);
        // fewer porters go ahead of fewer bits: a and b and c change 0, so does d
        CHECK.due("P19 the fewest", Check.told("doors 3;porter a turns all;porter b turns number=1;"
                + "porter c turns number=2;porter d turns number=0;").alone(0), 8);
    }

    private static void widest() {
        PorterDoors x = Check.told(FOUR);
        CHECK.due("P20 the set", x.widest(0), 3);
        CHECK.due("P20 open then", x.widest(1), 3);
        CHECK.due("P20 others", x.widest(2), -1);
        CHECK.due("P20 others below", x.widest(-1), -1);
        PorterDoors y = Check.told("doors 3;porter a turns number=0;porter b turns number=1;"
                + "porter c turns number<2;open 2;");
        CHECK.due("P20 the fewest porters", y.widest(0), 4);
        PorterDoors z = Check.told("doors 3;porter a turns not all;porter b turns all;porter c turns all;");
        CHECK.due("P20 the least bits", z.widest(0), 2);
        z.send(1);
        CHECK.due("P20 nobody", z.widest(0), 0);
        CHECK.due("P20 all", z.widest(1), 3);
        CHECK.due("P20 the only one", Check.told("doors 3;porter a turns all;").widest(0), 1);
        CHECK.due("P20 nobody there", Check.told("doors 2;open 1;").widest(1), 1);
        CHECK.due("P20 without a corridor", new PorterDoors().widest(1), -1);
    }

    private static void rest() {
        PorterDoors x = Check.told("doors 2;porter a turns number=0;porter b turns all;");
        CHECK.due("P21 for one", x.rest(1, 0), 1);
        CHECK.due("P21 cold for one", x.rest(1, 1), 1);
        CHECK.due("P21 cold for two", x.rest(2, 1), 1);
        x.nights(3);
        // cold 1, 1 + 1, 2 + 1; open is door 0 shut, door 1 open
        CHECK.due("P6 cold now", x.has(5), x.cold(0));
        CHECK.due("P21 all cold is told", x.rest(1, 1) > x.has(5), true);
        CHECK.due("P21 all stays", x.has(2), 3);
        CHECK.due("P21 others", x.rest(1, 2), -1);
        CHECK.due("P21 others below", x.rest(1, -1), -1);
        CHECK.due("P21 0 nights", x.rest(0, 0), -1);
        CHECK.due("P21 40 nights", x.rest(40, 0) >= 0, true);
        CHECK.due("P21 41 nights", x.rest(41, 0), -1);
        CHECK.due("P21 below 0", x.rest(-1, 0), -1);
        CHECK.due("P21 of like ones the first", Check.told("doors 2;porter a turns all;porter b turns all;"
                + "porter c turns all;").rest(1, 0), 0);
        CHECK.due("P21 without porters", Check.told("doors 2;").rest(1, 0), -1);
        CHECK.due("P21 one porter", Check.told("doors 2;porter a turns all;").rest(5, 1), 0);
        // who rests is tired by 0: at first a alone walks, b when someone is tired by 2
        PorterDoors t = Check.told("doors 4;porter a turns number<3;walks tired<2;cold open*10;");
        CHECK.due("P21 nobody walks", t.rest(3, 1), 0);
        t.nights(2);
        CHECK.due("P21 tired behind two", t.porter(0, 0), 2);
        CHECK.due("P21 from now on", t.rest(2, 1), 30);
        Check.become(t, 0, 3, 1, 222);
        CHECK.due("P21 to night 999", t.rest(9, 0), 0);
        CHECK.due("P21 beyond night 999", t.rest(10, 0), -1);
    }

    private static void odds() {
        PorterDoors x = Check.told("doors 3;porter a turns number=0;porter b turns number<2;open 2;ill 30;");
        // by day both walk: 0 shut, 1 open; without a 0 and 1 are open, without b 0 is, 1 is not
        CHECK.due("P22 door 0", x.odds(0), 60);
        CHECK.due("P22 door 1", x.odds(1), 140 + 30);
        CHECK.due("P22 door 2", x.odds(2), 200);
        CHECK.due("P22 all rows", x.odds(-1), 200);
        CHECK.due("P22 none such", x.odds(3), -1);
        CHECK.due("P22 below", x.odds(-2), -1);
        CHECK.due("P22 all stays", x.has(2) + x.has(9), 0);
        CHECK.due("P22 nobody is ill", Check.told("doors 2;porter a turns all;").odds(1), 100);
        CHECK.due("P22 all are ill", Check.told("doors 2;porter a turns all;ill 100;").odds(1), 0);
        CHECK.due("P22 without porters", Check.told("doors 2;open 1;").odds(1), -1);
        CHECK.due("P22 rows without porters", Check.told("doors 2;open 1;").odds(-1), -1);
        x.nights(98);
        for (int k = 0; k < 9; k++) {
            x.nights(100);
        }
        CHECK.due("P22 at night 998", x.odds(-1), 200);
        CHECK.due("P22 behind night 998", x.odds(0), 60);
        x.nights(1);
        CHECK.due("P22 at night 999", x.odds(0), -1);
        CHECK.due("P22 rows at night 999", x.odds(-1), -1);
        CHECK.due("P22 without a corridor", new PorterDoors().odds(-1), -1);
        CHECK.due("P22 jammed", Check.told("doors 2;porter a turns all;porter b turns all;stiff 1;ill 10;")
                .odds(0), 200);
    }

    private static int seen(PorterDoors x, int... bytes) {
        Check.tape(x, bytes);
        return x.see();
    }

    private static void see() {
        PorterDoors x = Check.told(FOUR);
        CHECK.due("P23 one", seen(x, 0, 1), 1);
        CHECK.due("P6 seen", x.has(8), 1);
        CHECK.due("P23 two in its place", seen(x, 2, 1, 1, 0), 2);
        CHECK.due("P6 seen then", x.has(8), 2);
        CHECK.due("P23 the tape goes", x.end(1), false);
        CHECK.due("P23 no rows", seen(x), -1);
        CHECK.due("P23 odd", seen(x, 0, 1, 0), -1);
        CHECK.due("P23 the tape goes then too", x.end(1), false);
        CHECK.due("P23 no such door", seen(x, 0, 1, 3, 1), -1);
        CHECK.due("P23 neither 0 nor 1", seen(x, 0, 1, 1, 2), -1);
        CHECK.due("P23 all stays", x.has(8), 2);
        CHECK.due("P39 refused", x.status(1), 4);
        int[] rows = new int[50];
        CHECK.due("P23 25 rows", seen(x, rows), -1);
        CHECK.due("P23 24 rows", seen(x, java.util.Arrays.copyOf(rows, 48)), 24);
        CHECK.due("P23 fits still", x.fits(-1), 8);
        CHECK.due("P23 without a corridor", seen(new PorterDoors(), 0, 0), -1);
        CHECK.due("P23 without porters", seen(Check.told("doors 2;open 1;"), 1, 1), 1);
    }

    private static void fits() {
        PorterDoors x = Check.told(FOUR);
        CHECK.due("P24 all", x.fits(-1), 16);
        for (int k = 0; k < 16; k++) {
            CHECK.due("P24 all, " + k, x.fits(k), k);
        }
        CHECK.due("P24 none such", x.fits(16), -1);
        CHECK.due("P24 below", x.fits(-2), -1);
        seen(x, 0, 1, 1, 0);
        // what changes 0 and 1: 3 or 7
        int[] due = {1, 7, 8, 14};
        CHECK.due("P24 some", x.fits(-1), 4);
        for (int k = 0; k < 4; k++) {
            CHECK.due("P24 some, " + k, x.fits(k), due[k]);
        }
        CHECK.due("P24 no fifth", x.fits(4), -1);
        seen(x, 0, 1, 0, 0);
        CHECK.due("P24 it can't be so", x.fits(-1), 0);
        CHECK.due("P24 no first", x.fits(0), -1);
        PorterDoors y = Check.told("doors 2;open 1;");
        CHECK.due("P24 nobody", y.fits(-1), 1);
        CHECK.due("P24 the set of nobody", y.fits(0), 0);
        CHECK.due("P24 without a corridor", new PorterDoors().fits(-1), -1);
    }

    private static void walked() {
        PorterDoors x = Check.told("doors 4;porter a turns number=0;porter b turns number=1;"
                + "porter c turns number=2;");
        CHECK.due("P25 some", x.walked(0), 0);
        seen(x, 0, 1, 1, 0);
        CHECK.due("P25 all", x.walked(0), 1);
        CHECK.due("P25 none", x.walked(1), 2);
        CHECK.due("P25 free", x.walked(2), 0);
        CHECK.due("P25 none such", x.walked(3), -1);
        CHECK.due("P25 below 0", x.walked(-1), -1);
        seen(x, 3, 1);
        CHECK.due("P25 without fits", x.walked(0), -1);
    }

    private static void tells() {
        PorterDoors x = Check.told(FOUR);
        CHECK.due("P26 the first of like ones", x.tells(0), 0);
        CHECK.due("P26 half are left", x.tells(1), 8);
        CHECK.due("P26 others", x.tells(2), -1);
        CHECK.due("P26 others below", x.tells(-1), -1);
        seen(x, 0, 1);
        CHECK.due("P26 another door", x.tells(0), 1);
        CHECK.due("P26 four", x.tells(1), 4);
        seen(x, 0, 1, 0, 0);
        CHECK.due("P26 without fits", x.tells(0), -1);
        CHECK.due("P26 without fits, none left", x.tells(1), -1);
        PorterDoors y = Check.told("doors 4;porter a turns number=3;");
        CHECK.due("P26 the one of his order", y.tells(0), 3);
        CHECK.due("P26 one is left", y.tells(1), 1);
        CHECK.due("P26 open at first", Check.told("doors 4;porter a turns number=3;open 3;").tells(1), 1);
        PorterDoors z = Check.told("doors 4;");
        CHECK.due("P26 nobody", z.tells(0), 0);
        CHECK.due("P26 the one fit", z.tells(1), 1);
        CHECK.due("P26 without a corridor", new PorterDoors().tells(1), -1);
    }

    /** What is seen holds for the doors as they are now, whatever has come between. */
    private static void moved() {
        PorterDoors x = Check.told("doors 3;porter a turns number=0;porter b turns colour=1;paint 1 1;");
        seen(x, 0, 1, 1, 0);
        CHECK.due("P24 a alone", x.fits(0), 1);
        x.turn(0);
        CHECK.due("P24 nobody now", x.fits(0), 0);
        x.paint(0, 1);
        CHECK.due("P16 b has both", x.changes(3), 2);
        CHECK.due("P24 still nobody", x.fits(0), 0);
        x.turn(1);
        CHECK.due("P24 a and b", x.fits(0), 3);
        x.undo();
        x.undo();
        x.undo();
        CHECK.due("P24 a again", x.fits(0), 1);
        CHECK.due("P24 he alone", x.fits(-1), 1);
    }
}
