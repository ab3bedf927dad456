/** Promises 1 to 7: the tape, corridors, their faults, what there is of all, names. */
public final class CorridorTest {
    private static final Check CHECK = new Check("CorridorTest");

    public static void main(String[] args) {
        newObject();
        feedAndEnd();
        corridors();
        ends();
        words();
        numbers();
        names();
        openings();
        tooMany();
        faultStays();
        anew();
        counts();
        letters();
        CHECK.finish();
    }

    private static void newObject() {
        PorterDoors x = new PorterDoors();
        for (int k = 0; k <= 9; k++) {
            CHECK.due("P1 has " + k, x.has(k), 0);
        }
        CHECK.due("P1 row", x.row(), -1);
        CHECK.due("P1 later", x.later(0), -1);
        CHECK.due("P1 changes", x.changes(0), -1);
        CHECK.due("P1 widest", x.widest(0), -1);
        CHECK.due("P1 fits", x.fits(-1), -1);
        CHECK.due("P1 tells", x.tells(0), -1);
        CHECK.due("P1 back", x.back(), -1);
        CHECK.due("P1 alike", x.alike(), -1);
        CHECK.due("P1 door", x.door(0, 0), -1);
        CHECK.due("P1 porter", x.porter(0, 0), -1);
        CHECK.due("P1 fault ahead of any", x.fault(0), 0);
        CHECK.due("P1 its place", x.fault(1), -1);
        for (int k = 0; k <= 5; k++) {
            CHECK.due("P1 status " + k, x.status(k), 0);
        }
        CHECK.due("NONE", PorterDoors.NONE, -1);
        CHECK.due("NOTHING", PorterDoors.NOTHING, -1_000_000_000_000_000L);
    }

    private static void feedAndEnd() {
        PorterDoors x = new PorterDoors();
        CHECK.due("P3 end of none", x.end(0), true);
        CHECK.due("P3 end of one too many", x.end(1), false);
        CHECK.due("P3 end below 0", x.end(-1), false);
        CHECK.due("P39 refused", x.status(0), 2);
        for (int k = 1; k <= 80; k++) {
            CHECK.due("P2 feed " + k, x.feed(0x20202020, 0x0a0a0a0a, 0x20202020, 0x20202020, 0x20202020), 20 * k);
        }
        CHECK.due("P2 one feed too many", x.feed(0, 0, 0, 0, 0), -1);
        CHECK.due("P39 refused once more", x.status(0), 3);
        CHECK.due("P3 end of 1601", x.end(1601), false);
        CHECK.due("P3 end of all", x.end(1600), true);
        CHECK.due("P4 blanks alone", x.corridor(), -1);
        CHECK.due("P5 fault at the length", x.fault(1), 1600);
        CHECK.due("P4 the tape is gone", x.end(1), false);
        // "doors 2;open 1;" with the highest byte of each number first
        x.feed(0x646f6f72, 0x7320323b, 0x6f70656e, 0x20313b20, 0x21212121);
        CHECK.due("P2 behind those on the tape", x.feed(-1, -1, -1, -1, -1), 40);
        CHECK.due("P3 the first 15 alone", x.end(15), true);
        CHECK.due("P3 no longer 16", x.end(16), false);
        CHECK.due("P4 as fed", x.corridor(), 2);
        CHECK.due("P2 open as fed", x.door(1, 0), 1);
        cut("doors 2;open 11", 14, 1, 14);
        cut("doors 2;walks allow", 17, 1, 17);
        cut("doors 2;porter abcd", 17, 1, 17);
        cut("doors 24;", 7, 1, 7);
    }

    /** What stood on the tape behind its end is no part of the text. */
    private static void cut(String text, int end, int what, int where) {
        PorterDoors x = new PorterDoors();
        Check.tape(x, text);
        x.end(end);
        CHECK.due("P3 cut, " + text, x.corridor(), -1);
        CHECK.due("P3 fault of what is left of " + text, x.fault(0), what);
        CHECK.due("P3 place in what is left of " + text, x.fault(1), where);
    }

    private static void corridors() {
        PorterDoors x = new PorterDoors();
        CHECK.due("P4 least", Check.corridor(x, "doors 2;"), 1);
        CHECK.due("P4 most doors", Check.corridor(x, "doors 24;"), 1);
        CHECK.due("P6 24 doors", x.has(0), 24);
        CHECK.due("P4 blanks", Check.corridor(x, "\n doors\n0007 ;\n\nopen 6 ; \n"), 2);
        CHECK.due("P6 7 doors", x.has(0), 7);
        CHECK.due("P4 without blanks",
                Check.corridor(x, "doors 3;walks[all]or not[1<2]and(who)=min(1,2);cold(open)*max(1,2);"), 3);
        CHECK.due("P4 the last one counts",
                Check.corridor(x, "doors 3;stiff 4;stiff 5;ill 7;ill 100;paint 1 2;paint 1 9;"), 7);
        CHECK.due("P4 stiff", x.has(6), 5);
        CHECK.due("P4 paint", x.door(1, 1), 9);
        CHECK.due("P4 ten porters", Check.corridor(x, porters(10)), 11);
        CHECK.due("P4 60 statements", Check.corridor(x, statements(60)), 60);
        CHECK.due("P4 words of questions are names",
                Check.corridor(x, "doors 3;porter first turns all;porter most turns all;"), 3);
        CHECK.due("P4 all at first", x.has(6), 0);
    }

    private static String porters(int n) {
        StringBuilder text = new StringBuilder("doors 2;");
        for (int k = 0; k < n; k++) {
            text.append("porter ").append((char) ('a' + k)).append(" turns all;");
        }
        return text.toString();
    }

    private static String statements(int n) {
        return "doors 2;" + "ill 1;".repeat(n - 1);
    }

    private static void ends() {
        CHECK.fault("", 1, 0);
        CHECK.fault(" \n ", 1, 3);
        CHECK.fault("doors", 1, 5);
        CHECK.fault("doors ", 1, 6);
        CHECK.fault("doors 2", 1, 7);
        CHECK.fault("doors 2  ", 1, 9);
        CHECK.fault("doors 2;porter", 1, 14);
        CHECK.fault("doors 2;porter ann", 1, 18);
        CHECK.fault("doors 2;porter ann turns", 1, 24);
        CHECK.fault("doors 2;porter ann turns number ", 1, 32);
        CHECK.fault("doors 2;porter ann turns number=", 1, 32);
        CHECK.fault("doors 2;porter ann turns number=1", 1, 33);
        CHECK.fault("doors 2;walks [ all", 1, 19);
        CHECK.fault("doors 2;cold min(1,2", 1, 20);
        CHECK.fault("doors 2;paint 1", 1, 15);
    }

    private static void words() {
        CHECK.fault("open 1;", 1, 0);
        CHECK.fault("doo", 1, 0);
        CHECK.fault("doorsx 2;", 1, 0);
        CHECK.fault("Doors 2;", 1, 0);
        CHECK.fault("doors2;", 1, 5);
        CHECK.fault("doors x;", 1, 6);
        CHECK.fault("doors 2x;", 1, 7);
        CHECK.fault("doors 2;;", 1, 8);
        CHECK.fault("doors 2;doors 2;", 1, 8);
        CHECK.fault("doors 2;turns all;", 1, 8);
        CHECK.fault("doors 2;opens 1;", 1, 8);
        CHECK.fault("doors 2;\topen 1;", 1, 8);
        CHECK.fault("doors 2;open 1 1;", 1, 15);
        CHECK.fault("doors 2;open 1,", 1, 14);
        CHECK.fault("doors 2;walks al;", 1, 14);
        CHECK.fault("doors 2;walks all all;", 1, 18);
        CHECK.fault("doors 2;walks all=1;", 1, 17);
        CHECK.fault("doors 2;walks 1<2<3;", 1, 17);
        CHECK.fault("doors 2;walks 1<2or all;", 1, 17);
        CHECK.fault("doors 2;walks 1<2 or2<3;", 1, 20);
        CHECK.fault("doors 2;walks (all);", 1, 15);
        CHECK.fault("doors 2;walks [1];", 1, 16);
        CHECK.fault("doors 2;walks 1<all;", 1, 16);
        CHECK.fault("doors 2;walks 1<not all;", 1, 16);
        CHECK.fault("doors 2;walks 1<=2;", 1, 16);
        CHECK.fault("doors 2;cold all;", 1, 13);
        CHECK.fault("doors 2;cold -1;", 1, 13);
        CHECK.fault("doors 2;cold 1+;", 1, 15);
        CHECK.fault("doors 2;cold 1>0;", 1, 14);
        CHECK.fault("doors 2;cold min 1;", 1, 17);
        CHECK.fault("doors 2;cold min(1);", 1, 18);
        CHECK.fault("doors 2;cold min(1,2,3);", 1, 20);
        CHECK.fault("doors 2;cold (1,2);", 1, 15);
        CHECK.fault("doors 2;cold (1];", 1, 15);
        CHECK.fault("doors 2;cold min(1,2];", 1, 20);
        CHECK.fault("doors 2;walks [all);", 1, 18);
        CHECK.fault("doors 2;walks [all;", 1, 18);
        CHECK.fault("doors 2;walks all];", 1, 17);
        CHECK.fault("doors 2;cold \u00e9;", 1, 13);
        CHECK.fault("doors 2;cold numbers;", 1, 13);
        CHECK.fault("doors 2;cold by 1;", 1, 13);
        CHECK.fault("doors 2;cold near 1;", 1, 13);
        CHECK.fault("doors 2;cold jammed;", 1, 13);
        CHECK.fault("doors 2;cold opened;", 1, 13);
        CHECK.fault("doors 2;cold tired;", 1, 13);
        CHECK.fault("doors 2;walks colour<1;", 1, 14);
        CHECK.fault("doors 2;walks turned<1;", 1, 14);
        CHECK.fault("doors 2;walks open<1;", 1, 14);
        CHECK.fault("doors 2;porter p turns who=1;", 1, 23);
        CHECK.fault("doors 2;porter p turns turned=1;", 1, 23);
        CHECK.fault("doors 2;porter p turns tired=1;", 1, 23);
    }

    private static void numbers() {
        CHECK.fault("doors 1;", 2, 6);
        CHECK.fault("doors 0;", 2, 6);
        CHECK.fault("doors 25;", 2, 6);
        CHECK.fault("doors 9999", 2, 6);
        CHECK.fault("doors 00002;", 1, 10);
        CHECK.fault("doors 99999;", 1, 10);
        CHECK.fault("doors 2;paint 2 1;", 2, 14);
        CHECK.fault("doors 2;paint 1 10;", 2, 16);
        CHECK.fault("doors 2;open 2;", 2, 13);
        CHECK.fault("doors 2;open 1;open 0;open 1;", 2, 27);
        CHECK.fault("doors 2;stiff 100;", 2, 14);
        CHECK.fault("doors 2;ill 101;", 2, 12);
        CHECK.fault("doors 2;ill 12345;", 1, 16);
        CHECK.fault("doors 2;cold 123456;", 1, 17);
        CHECK.fault("doors 2;walks 1=12345;", 1, 20);
        CHECK.fault("doors 2;walks 1 12345;", 1, 16);
        PorterDoors x = Check.told("doors 2;cold 9999;walks 0000=0;stiff 99;ill 100;");
        CHECK.due("P4 greatest numbers", x.has(6), 99);
        CHECK.due("P4 least numbers", Check.corridor(x, "doors 2;stiff 0;ill 0;paint 0 0;open 0;cold 0;"), 6);
    }

    private static void names() {
        for (String own : ("doors porter turns paint open stiff walks cold ill number colour turned who "
                + "night opened tired jammed by near or and not all min max").split(" ")) {
            CHECK.fault("doors 2;porter " + own + " turns all;", 1, 15);
        }
        CHECK.fault("doors 2;porter 1 turns all;", 1, 15);
        CHECK.fault("doors 2;porter Ann turns all;", 1, 15);
        CHECK.fault("doors 2;porter anN turns all;", 1, 17);
        CHECK.fault("doors 2;porter abcdefg turns all;", 1, 21);
        CHECK.fault("doors 2;porter numbers turns all;", 1, 21);
        CHECK.fault("doors 2;porter abcdefghi turns all;", 1, 21);
        CHECK.fault("doors 2;porter a1 turns all;", 1, 16);
        CHECK.fault("doors 2;porter a turn all;", 1, 17);
        CHECK.fault("doors 2;porter a turns all;porter a turns all;", 3, 34);
        CHECK.fault("doors 2;porter abcdef turns all;porter b turns all;porter\nabcdef", 3, 58);
        PorterDoors x = Check.told("doors 2;porter a turns all;porter aa turns all;porter abcdef turns all;");
        CHECK.due("P4 unlike names", x.has(1), 3);
    }

    private static void openings() {
        CHECK.fault("doors 2;cold ((((((1)))));", 1, 25);
        CHECK.fault("doors 2;cold (((((((1)))))));", 4, 19);
        CHECK.fault("doors 2;walks [[[[[[[all]]]]]]];", 4, 20);
        CHECK.fault("doors 2;walks not not not not not not not all;", 4, 38);
        CHECK.fault("doors 2;walks not [ not [ ( min (", 1, 33);
        CHECK.fault("doors 2;walks not [ not [ ( min ( (", 4, 34);
        CHECK.fault("doors 2;cold ((((((min (1,2)))))));", 4, 23);
        CHECK.fault("doors 2;cold ((((((min 1", 1, 23);
        CHECK.fault("doors 2;cold ((((((x", 1, 19);
        CHECK.due("P4 six open", Check.told("doors 2;cold ((((((1))))));").has(0), 2);
        CHECK.due("P4 six nots", Check.told("doors 2;walks not not not not not not all;").has(0), 2);
        // not is open until its fact ends, so here there is one at once
        CHECK.due("P4 nots side by side", Check.told("doors 2;walks not 1=1 and not 1=1 or not 1=1 "
                + "and not all or not [all] and not all or not 1=1 and not 1=2;").has(0), 2);
        CHECK.due("P4 brackets side by side",
                Check.told("doors 2;cold (1)+(1)+(1)+(1)+min(1,1)+(1)+(1)+(1);").has(0), 2);
        CHECK.fault("doors 2;walks not not not [1=1] and [1=1] and ((((((1", 1, 53);
        CHECK.fault("doors 2;walks not not not [ 1=1 and ((((1", 4, 38);
    }

    private static void tooMany() {
        String ten = porters(10);
        CHECK.fault(ten + "porter k turns all;", 5, ten.length());
        CHECK.fault(ten + " porter", 5, ten.length() + 1);
        CHECK.fault("doors 2;walks all;walks all;", 5, 18);
        CHECK.fault("doors 2;cold 1;open 1;cold", 5, 22);
        CHECK.fault(statements(60) + "ill 1;", 5, statements(60).length());
        CHECK.fault(statements(60) + " ?", 5, statements(60).length() + 1);
        CHECK.fault(statements(60) + "doors 2;", 5, statements(60).length());
        CHECK.due("P4 blanks behind the 60th", Check.told(statements(60) + " \n ").has(0), 2);
    }

    private static void faultStays() {
        PorterDoors x = Check.told("doors 5;porter ann turns all;open 3;stiff 2;");
        x.nights(2);
        Check.tape(x, 3, 0);
        x.see();
        CHECK.due("P4 refused", Check.corridor(x, "doors 3;porter bob turns all;open 4;"), -1);
        CHECK.due("P5 fault", x.fault(0), 2);
        CHECK.due("P5 place", x.fault(1), 34);
        CHECK.due("P5 another what", x.fault(2), -1);
        CHECK.due("P5 what below", x.fault(-1), -1);
        CHECK.due("P39 refused", x.status(1), 1);
        CHECK.due("P4 doors stay", x.has(0), 5);
        CHECK.due("P4 the night stays", x.has(2), 2);
        CHECK.due("P4 acts stay", x.has(9), 1);
        CHECK.due("P4 kept stays", x.has(7), 2);
        CHECK.due("P4 seen stays", x.has(8), 1);
        CHECK.due("P4 names stay", x.letter(0, 0), 1);
        CHECK.due("P4 order stays", x.order(0), 31);
        x.seed(77);
        CHECK.due("P4 a new one", Check.corridor(x, "doors 3;porter bob turns number=0;open 2;"), 3);
        CHECK.due("P5 fault 0", x.fault(0), 0);
        CHECK.due("P5 no place", x.fault(1), -1);
        for (int k : new int[] {2, 4, 5, 6, 7, 8, 9}) {
            CHECK.due("P4 as at first, has " + k, x.has(k), 0);
        }
        CHECK.due("P4 open doors", x.has(3), 1);
        CHECK.due("P4 new name", x.letter(0, 0), 2);
        CHECK.due("P4 new order", x.order(0), 1);
        CHECK.due("P4 untired", x.porter(0, 0), 0);
        CHECK.due("P33 nothing to undo", x.undo(), false);
    }

    /** Nothing of an earlier corridor, whole or with a fault, is left in the next one. */
    private static void anew() {
        String rich = "doors 24;stiff 1;ill 100;walks who>0;cold 9;open 23;paint 3 3;paint 0 3;"
                + "porter a turns not all;porter b turns number=0;porter c turns colour=3;";
        PorterDoors x = new PorterDoors();
        for (int k = 0; k < 23; k++) {
            CHECK.due("P4 rich " + k, Check.corridor(x, k % 3 == 2 ? rich + "?" : rich), k % 3 == 2 ? -1 : 11);
        }
        CHECK.due("P13 rich", x.cold(1), 24 * 9);
        CHECK.due("P17 rich", x.sends(1, 1), 2);
        CHECK.due("P4 bare", Check.corridor(x, "doors 4;porter a turns not all;"), 2);
        CHECK.due("P4 no stiff", x.has(6), 0);
        CHECK.due("P4 none open", x.has(3), 0);
        CHECK.due("P4 no paint", x.door(3, 1) + x.door(0, 1), 0);
        CHECK.due("P4 walks is all", x.porter(0, 2), 1);
        CHECK.due("P4 nobody is ill", x.chance(1), 0);
        CHECK.due("P4 cold is open", x.has(5), 0);
        CHECK.due("P17 one porter alone", x.sends(1, 1), -1);
        CHECK.due("P19 one porter alone", x.alone(0), -1);
        CHECK.due("P20 one porter alone", x.widest(0), 0);
        CHECK.due("P18 one porter alone", x.alike(), 2);
        CHECK.due("P35 one porter alone", Check.ask(x, "total by 1+by 2"), 0);
        CHECK.due("P4 ten porters, walks, cold", Check.corridor(x, porters(9)
                + "porter k turns number=1;walks who>8;cold 7;"), 13);
        CHECK.due("P10 the tenth", x.order(9), 2);
        CHECK.due("P9 the first", x.porter(0, 2), 0);
        CHECK.due("P9 the tenth", x.porter(9, 2), 1);
        CHECK.due("P12 the tenth", x.later(1), 2);
        CHECK.due("P13 the cold", x.cold(1), 14);
    }

    private static void counts() {
        PorterDoors x = Check.told("doors 6;porter a turns number<2;porter b turns number=0;open 4;open 5;stiff 2;");
        x.nights(1);
        x.turn(5);
        Check.tape(x, 0, 1, 1, 0);
        x.see();
        // a opens 0 and 1, b shuts 0; 5 is shut by hand
        long[] due = {6, 2, 1, 2, 1, 2 + 1, 2, 2, 2, 2};
        for (int k = 0; k < due.length; k++) {
            CHECK.due("P6 has " + k, x.has(k), due[k]);
        }
        CHECK.due("P6 others", x.has(10), -1);
        CHECK.due("P6 others below", x.has(-1), -1);
    }

    private static void letters() {
        PorterDoors x = Check.told("doors 2;porter abcxyz turns all;porter z turns all;");
        int[] due = {1, 2, 3, 24, 25, 26};
        for (int k = 0; k < 6; k++) {
            CHECK.due("P7 letter " + k, x.letter(0, k), due[k]);
            CHECK.due("P7 short name " + k, x.letter(1, k), k == 0 ? 26 : 0);
        }
        CHECK.due("P7 letter 6", x.letter(0, 6), -1);
        CHECK.due("P7 letter -1", x.letter(0, -1), -1);
        CHECK.due("P7 no such porter", x.letter(2, 0), -1);
        CHECK.due("P7 porter below 0", x.letter(-1, 0), -1);
    }
}
