/** The edges of promise 35: questions of doors, by and near, what a fault leaves as it was. */
public final class AskEdgesTest {
    private static final Check CHECK = new Check("AskEdgesTest");
    private static final long NOTHING = PorterDoors.NOTHING;
    private static final String[] ASKED = {"first", "last", "often", "total", "most", "least"};

    public static void main(String[] args) {
        firstAndLast();
        mostAndLeast();
        byPorters();
        nearDoors();
        askedWords();
        behindIt();
        longest();
        noneOrNothing();
        faultStays();
        withoutCorridor();
        nothingChanges();
        CHECK.finish();
    }

    private static void is(PorterDoors x, String question, long due) {
        CHECK.due("P35 " + question, Check.ask(x, question), due);
        CHECK.due("P5 fault of " + question, x.fault(0), due == NOTHING ? 1 : 0);
    }

    /** P35: the first and the last DOOR there is, "NONE of first, last, when its TEST holds for none". */
    private static void firstAndLast() {
        for (int doors : new int[] {2, 3, 24}) {
            PorterDoors x = Check.told("doors " + doors + ";");
            is(x, "first all", 0);
            is(x, "last all", doors - 1);
            is(x, "often all", doors);
            is(x, "first not all", -1);
            is(x, "last not all", -1);
            is(x, "often not all", 0);
            is(x, "first number=" + (doors - 1), doors - 1);
            is(x, "first number=" + doors, -1);
            is(x, "last number=0", 0);
            is(x, "often number=0", 1);
            is(x, "often number>0", doors - 1);
            is(x, "first number>0", 1);
            is(x, "last number<" + (doors - 1), doors - 2);
        }
    }

    private static void mostAndLeast() {
        for (int doors : new int[] {2, 3, 24}) {
            PorterDoors x = Check.told("doors " + doors + ";");
            int last = doors - 1;
            is(x, "total number", doors * last / 2);
            is(x, "total 0-number", -doors * last / 2);
            is(x, "most number", last);
            is(x, "least number", 0);
            is(x, "most 0-number", 0);
            is(x, "least 0-number", -last);
            is(x, "total 0", 0);
            is(x, "total 1", doors);
            is(x, "most number-1", last - 1);
            is(x, "least number-1", -1);
            is(x, "most number/" + last, 1);
            is(x, "most number/" + doors, 0);
            is(x, "least number+9999", 9999);
        }
    }

    /** IV "1 if it is of the ORDER of the PORTER of that number, else 0". */
    private static void byPorters() {
        for (int porters : new int[] {0, 1, 2, 9, 10}) {
            String text = Check.porters(24, porters, "number>22-#");
            PorterDoors x = Check.told(text);
            for (int p = 0; p <= 11; p++) {
                is(x, "total by " + p, p < porters ? p + 1 : 0);
            }
            is(x, "total by (0-1)", 0);
            is(x, "total by 9999", 0);
            is(x, "total by (9999*9999)", 0);
            is(x, "total by (0-9999*9999)", 0);
        }
        PorterDoors x = Check.told("doors 4;porter a turns number<3;porter b turns number=1;open 1;");
        is(x, "total by number", 1 + 1);
        is(x, "total by open", 1 + 1 + 1);
        is(x, "total by by 0", 1);
        is(x, "total by min(1,number)", 1 + 1);
        is(x, "total by 0*by 1", 1);
        is(x, "total by 1+1", 5);
        is(x, "total by (1+0)", 1);
        is(x, "total by near 0", 1 + 1 + 1);
        // a porter of the corridor ahead is none of this one
        PorterDoors gone = Check.told("doors 2;porter a turns all;porter b turns all;");
        is(gone, "total by 1", 2);
        Check.corridor(gone, "doors 2;porter a turns all and all;");
        is(gone, "total by 0", 2);
        is(gone, "total by 1", 0);
        // the order as it is now
        PorterDoors y = Check.told("doors 3;porter a turns colour=1 or night=1;");
        is(y, "total by 0", 0);
        y.paint(2, 1);
        is(y, "first by 0=1", 2);
        y.nights(1);
        is(y, "total by 0", 3);
        y.undo();
        is(y, "total by 0", 1);
        y.undo();
        is(y, "total by 0", 0);
    }

    /** IV "1 if the DOOR so many on, below 0 back, is open, 0 if it is shut, or there is none". */
    private static void nearDoors() {
        for (int doors : new int[] {2, 23, 24}) {
            int last = doors - 1;
            PorterDoors x = Check.told("doors " + doors + ";open 0;");
            PorterDoors y = Check.told("doors " + doors + ";open " + last + ";");
            is(x, "first near 0=1", 0);
            is(x, "total near 0", 1);
            is(x, "total near 1", 0);
            is(x, "last near (0-1)=1", 1);
            is(x, "total near (0-1)", 1);
            is(x, "last near (0-" + last + ")=1", last);
            is(x, "total near (0-" + doors + ")", 0);
            is(y, "last near 0=1", last);
            is(y, "total near (0-1)", 0);
            is(y, "first near 1=1", last - 1);
            is(y, "first near " + last + "=1", 0);
            is(y, "total near " + last, 1);
            is(y, "total near " + doors, 0);
            is(y, "total near 32", 0);
            is(y, "total near 31", 0);
            is(y, "total near 64", 0);
            is(x, "total near (0-32)", 0);
            is(x, "total near 9999", 0);
            is(x, "total near (9999*9999)", 0);
            is(x, "total near (0-9999*9999)", 0);
        }
        PorterDoors x = Check.told("doors 24;porter a turns all;");
        x.send(0);
        for (int far = 0; far <= 24; far++) {
            is(x, "total near " + far, 24 - far);
            is(x, "total near (0-" + far + ")", 24 - far);
        }
        PorterDoors y = Check.told("doors 4;open 3;");
        is(y, "total near number", 0);
        is(y, "first near (3-number)=1", 0);
        is(y, "often near (3-number)=1", 4);
        is(y, "total near 1+1", 5);
        is(y, "total near 1*2", 2);
        is(y, "total near near 1", 2);
    }

    private static void no(String marked, int what) {
        PorterDoors x = Check.told("doors 3;porter a turns all;open 1;");
        CHECK.due("P35 " + marked, Check.ask(x, marked.replace("|", "")), NOTHING);
        CHECK.due("P5 fault of " + marked, x.fault(0), what);
        CHECK.due("P5 place of " + marked, x.fault(1), marked.indexOf('|'));
    }

    /** IV: which of the six words, each whole, with a TEST or a SUM behind it. */
    private static void askedWords() {
        for (String word : ASKED) {
            boolean test = "first last often".contains(word);
            no("|" + word.substring(1), 1);
            no("|" + word + "s all", 1);
            no("|" + word.substring(0, word.length() - 1), 1);
            no("|" + word.toUpperCase() + " 1", 1);
            no(word + "|", 1);
            no(word + " \n|", 1);
            no(word + "|1" + (test ? "=1" : ""), 1);
            no(test ? word + " 1|" : word + " |all", 1);
            no(test ? word + " 1+number|" : word + " 1|=1", 1);
            no(test ? word + " (|all)" : word + " |[1]", 1);
            no(word + (test ? " all and 1 |2" : " 1 |2"), 1);
            PorterDoors x = Check.told("doors 3;");
            CHECK.due("P35 blanks, " + word, Check.ask(x, " \n" + word + (test ? "\nall " : "\n1 \n")) != NOTHING, true);
            CHECK.due("P35 no blanks, " + word, Check.ask(x, word + (test ? "[all]" : "(1)")) != NOTHING, true);
        }
        for (String word : new String[] {"doors", "porter", "all", "not", "by", "number", "x", "abcdefgh", "1", "12345",
            "(1)", ";", "?", "\t", "\u00ff"}) {
            no("|" + word, 1);
            no(" |" + word + " all", 1);
        }
        no("|", 1);
        no("  \n|", 1);
        no(" ".repeat(1600) + "|", 1);
    }

    /** IV "1 as in I (an unknown word at its first byte; what stands behind it, too)". */
    private static void behindIt() {
        for (String more : new String[] {";", "all", "1", "]", ")", "=", "first all", "12345", "abcdefgh", "?",
            "\t", ",", "turns", "not"}) {
            no("first all |" + more, 1);
            no("total 1 |" + more, 1);
        }
        for (String joins : new String[] {"or", "and"}) {
            no("first all " + joins + "|", 1);
            no("total 1 |" + joins, 1);
        }
        for (String joins : new String[] {"+", "-", "*", "/"}) {
            no("first all |" + joins, 1);
            no("total 1" + joins + "|", 1);
        }
        no("total |unknown", 1);
        no("total 1+|unknow+1", 1);
        no("first number=|first", 1);
        no("total 1234|5", 1);
        no("total 1|=1", 1);
        no("total (1|", 1);
        no("total by|", 1);
        no("total near |)", 1);
        no("total by |-1", 1);
        no("total near |all", 1);
        no("total by |[1]", 1);
        no("total by 0|near", 1);
        no("total |nearnear 1", 1);
        no("total near|1", 1);
    }

    /** A question may be as long as the tape. */
    private static void longest() {
        PorterDoors x = Check.told("doors 24;");
        String longest = "total 11" + "+1".repeat(796);
        CHECK.due("P35 its length", longest.length(), 1600);
        is(x, longest, 24L * (11 + 796));
        x = Check.told("doors 24;");
        is(x, "often " + "1=1 and ".repeat(199) + "1>", NOTHING);
        CHECK.due("P5 it ends too soon", x.fault(1), 6 + 8 * 199 + 2);
        x = Check.told("doors 2;");
        is(x, "total 1" + " ".repeat(1592) + "x", NOTHING);
        CHECK.due("P5 at the last byte", x.fault(1), 1599);
        x = Check.told("doors 2;");
        is(x, " ".repeat(1592) + "total 1 ", 2);
    }

    /** P35 NONE is an answer without a fault; NOTHING is told with one. */
    private static void noneOrNothing() {
        PorterDoors x = Check.told("doors 2;");
        is(x, "first number>1", -1);
        is(x, "total 0-1", -2);
        is(x, "most 0-1", -1);
        is(x, "first number>1;", NOTHING);
        CHECK.due("NONE and NOTHING", PorterDoors.NONE, -1);
        CHECK.due("NOTHING is told", PorterDoors.NOTHING, -1_000_000_000_000_000L);
        CHECK.due("P39 a fault of a question is not refused", x.status(1), 0);
    }

    private static PorterDoors moved() {
        PorterDoors x = Check.told("doors 3;porter a turns number<2;porter b turns colour=2;open 1;paint 2 2;ill 40;");
        Check.see(x, 0, 1);
        x.nights(2);
        x.turn(2);
        x.image();
        return x;
    }

    /** P35 "NOTHING with a FAULT": all but the fault and the tape stays, no count rises. */
    private static void faultStays() {
        for (String text : new String[] {"", "x", "total", "first all all", "total ((((((((1", "often not all;"}) {
            CHECK.stays("P35 " + text, () -> {
                PorterDoors x = moved();
                Check.ask(x, text);
                return x;
            }, x -> Check.ask(x, text), NOTHING, -1);
        }
    }

    /** P35 "(the tape goes, nothing else is done, fault() stays) without a corridor". */
    private static void withoutCorridor() {
        for (String text : new String[] {"total 1", "?", ""}) {
            CHECK.stays("P35 without a corridor, " + text, PorterDoors::new, x -> Check.ask(x, text), NOTHING, -1);
            CHECK.stays("P35 fault() stays, " + text, () -> {
                PorterDoors x = new PorterDoors();
                Check.corridor(x, "doors 25;");
                return x;
            }, x -> Check.ask(x, text), NOTHING, -1);
        }
        PorterDoors x = new PorterDoors();
        Check.corridor(x, "doors 25;");
        Check.ask(x, "?");
        CHECK.due("P5 the fault", x.fault(0), 2);
        CHECK.due("P5 its place", x.fault(1), 6);
        CHECK.due("P3 the tape goes", x.end(1), false);
    }

    private static void nothingChanges() {
        for (String word : ASKED) {
            String text = word + ("first last often".contains(word) ? " by 0=near 1" : " by 0+near 1+turned");
            CHECK.stays("P35 " + text, AskEdgesTest::moved, x -> Check.ask(x, text) * 0, 0, -1);
        }
    }
}
