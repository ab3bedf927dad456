/** Promise 35: questions, their answers, their faults. */
public final class QuestionTest {
    private static final Check CHECK = new Check("QuestionTest");

    public static void main(String[] args) {
        answers();
        byAndNear();
        nobody();
        faults();
        withoutCorridor();
        CHECK.finish();
    }

    private static void is(PorterDoors x, String question, long due) {
        CHECK.due("P35 " + question, Check.ask(x, question), due);
        CHECK.due("P5 no fault, " + question, x.fault(0), 0);
        CHECK.due("P5 no place, " + question, x.fault(1), -1);
    }

    private static void answers() {
        PorterDoors x = Check.told("doors 6;porter a turns number<3;porter b turns number>1;"
                + "paint 4 7;paint 5 2;open 3;stiff 2;");
        x.nights(1);
        // open are 0, 1, 4, 5; door 2 has been turned twice, so it is jammed
        is(x, "first open=1", 0);
        is(x, "last open=1", 5);
        is(x, "often open=1", 4);
        is(x, "first jammed=1", 2);
        is(x, "last jammed=0", 5);
        is(x, "often turned=1", 5);
        is(x, "first colour>0", 4);
        is(x, "total colour", 9);
        is(x, "most colour", 7);
        is(x, "least colour", 0);
        is(x, "first night=1", 0);
        is(x, "often night=0", 0);
        is(x, "first not all", -1);
        is(x, "last number>5", -1);
        is(x, "total number", 15);
        is(x, "total 0-number", -15);
        is(x, "most number-10", -5);
        is(x, "least 0-number*number", -25);
        is(x, "total 9999*9999", 6_000_000);
        is(x, "total 0-9999*9999", -6_000_000);
        is(x, "most 9999*9999", 1_000_000);
        is(x, "least 0-9999*9999-9", -1_000_000);
        is(x, "total min(number,2)+max(turned,2)", 11 - 2 + 12);
        is(x, "  total\n7 ", 42);
        is(x, "first[number>2 and not[number=3]]", 4);
        is(x, "often number/2*2=number or colour=2", 4);
        CHECK.due("P35 the tape goes", x.end(1), false);
        CHECK.due("P35 no act", x.has(9), 1);
    }

    private static void byAndNear() {
        PorterDoors x = Check.told("doors 6;porter a turns number<3;porter b turns number>1;"
                + "porter c turns night=1;open 0;open 3;open 5;");
        is(x, "total by 0", 3);
        is(x, "first by 1=1", 2);
        is(x, "often by 0=by 1", 1);
        is(x, "total by 2", 0);
        is(x, "total by 3", 0);
        is(x, "total by 9", 0);
        is(x, "total by 10", 0);
        is(x, "total by 9999", 0);
        is(x, "total by (0-1)", 0);
        is(x, "total by open", 4);
        is(x, "first near 1=1", 2);
        is(x, "last near 1=1", 4);
        is(x, "last near(0-1)=1", 4);
        is(x, "first near (0-1)=1", 1);
        is(x, "often near 0=open", 6);
        is(x, "total near 5", 1);
        is(x, "total near 6", 0);
        is(x, "total near 9999", 0);
        is(x, "total near (0-9999*9999)", 0);
        is(x, "total near near 1", 5);
        is(x, "total by near 1*10", 4 * 10);
        is(x, "first by min(number,1)=0", 1);
        x.nights(1);
        is(x, "total by 2", 6);
    }

    /** With one door near the end and nobody: the bounds of near and by. */
    private static void nobody() {
        PorterDoors x = Check.told("doors 24;open 23;");
        is(x, "total by 0", 0);
        is(x, "first near 23=1", 0);
        is(x, "last near 1=1", 22);
        is(x, "total near 24", 0);
        is(x, "most number", 23);
        is(x, "last all", 23);
        is(x, "total " + "1+".repeat(796) + "1", 797 * 24);
        is(x, "total " + "1+1*".repeat(398) + "1", 399 * 24);
        is(x, "often " + "1=1 and ".repeat(198) + "all", 24);
    }

    private static void no(PorterDoors x, String question, int what, int where) {
        CHECK.due("P35 " + question, Check.ask(x, question), PorterDoors.NOTHING);
        CHECK.due("P5 fault, " + question, x.fault(0), what);
        CHECK.due("P5 place, " + question, x.fault(1), where);
    }

    private static void faults() {
        PorterDoors x = Check.told("doors 3;porter a turns all;");
        no(x, "", 1, 0);
        no(x, "  ", 1, 2);
        no(x, "firs all", 1, 0);
        no(x, " firstall", 1, 1);
        no(x, "doors 3;", 1, 0);
        no(x, "7", 1, 0);
        no(x, "first", 1, 5);
        no(x, "first 1", 1, 7);
        no(x, "first number", 1, 12);
        no(x, "first all;", 1, 9);
        no(x, "first all all", 1, 10);
        no(x, "total all", 1, 6);
        no(x, "total 1=1", 1, 7);
        no(x, "total 1 2", 1, 8);
        no(x, "total 12345", 1, 10);
        no(x, "total near 12345", 1, 15);
        no(x, "total who", 1, 6);
        no(x, "total opened", 1, 6);
        no(x, "total tired", 1, 6);
        no(x, "total ann", 1, 6);
        no(x, "total numbers", 1, 6);
        no(x, "total by", 1, 8);
        no(x, "total by by", 1, 11);
        no(x, "total near-1", 1, 10);
        no(x, "total near 1+", 1, 13);
        no(x, "total by1", 1, 8);
        no(x, "total 1/0 x", 1, 10);
        no(x, "most [1]", 1, 5);
        no(x, "total near near near near near near near 1", 4, 36);
        no(x, "total by by by by by by by 1", 4, 24);
        no(x, "total by (near (by near 1)", 1, 26);
        no(x, "total by (near (by near by 1))", 4, 24);
        no(x, "total by (near (by (near 1", 4, 20);
        no(x, "first not not [ [ (near(1", 4, 23);
        no(x, "first not not [ [ near near by 1", 4, 28);
        CHECK.due("P35 near till its part ends",
                Check.ask(x, "total near 1+near 1+near 1+near 1+near 1+by 0+by 0+by 0"), 9);
        CHECK.due("P35 a fault is not refused", x.status(1), 0);
    }

    private static void withoutCorridor() {
        PorterDoors x = new PorterDoors();
        CHECK.due("P35 without a corridor", Check.ask(x, "total 1"), PorterDoors.NOTHING);
        CHECK.due("P35 the tape goes", x.end(1), false);
        CHECK.due("P5 none", x.fault(0), 0);
        Check.corridor(x, "doors 1;");
        CHECK.due("P35 with a fault", Check.ask(x, "?"), PorterDoors.NOTHING);
        CHECK.due("P5 fault stays", x.fault(0), 2);
        CHECK.due("P5 place stays", x.fault(1), 6);
    }
}
