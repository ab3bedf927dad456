import java.util.List;

/** The edges of tests and sums, wherever they stand: what is held, which words, how deep. */
public final class SumEdgesTest {
    private static final Check CHECK = new Check("SumEdgesTest");
    private static final long MOST = 1_000_000;
    private static final String[] WORDS = {"night", "number", "colour", "open", "turned", "who", "opened",
        "tired", "jammed", "by 1", "near 1"};

    public static void main(String[] args) {
        held();
        heldEverywhere();
        quotients();
        fromTheLeft();
        signs();
        joins();
        totals();
        wordsByPlace();
        worths();
        sixDeep();
        sixDeepWorth();
        seventh();
        closed();
        byAndNearDeep();
        CHECK.finish();
    }

    /** An answer of two doors, nobody, all shut. */
    private static long asked(String question) {
        return Check.ask(Check.told("doors 2;"), question);
    }

    private static void is(String sum, long due) {
        CHECK.due("I " + sum, asked("most " + sum), due);
        CHECK.due("I least of all alike, " + sum, asked("least " + sum), due);
    }

    /** I "each sum, difference, product above 10 to the 6 is that, below -10 to the 6 likewise". */
    private static void held() {
        is("9999*100+99", MOST - 1);
        is("9999*100+100", MOST);
        is("9999*100+101", MOST);
        is("9999*100+101-1", MOST - 1);
        is("9999*100+9999", MOST);
        is("9999*100-(0-99)", MOST - 1);
        is("9999*100-(0-100)", MOST);
        is("9999*100-(0-101)-1", MOST - 1);
        is("999*1001", 999_999);
        is("1000*1000", MOST);
        is("1000*1000-1", MOST - 1);
        is("1001*1000-1", MOST - 1);
        is("9999*9999-1", MOST - 1);
        is("0-9999*100-99", 1 - MOST);
        is("0-9999*100-100", -MOST);
        is("0-9999*100-101", -MOST);
        is("0-9999*100-101+1", 1 - MOST);
        is("0-9999*100+(0-100)", -MOST);
        is("0-9999*100+(0-101)+1", 1 - MOST);
        is("(0-999)*1001", -999_999);
        is("(0-1000)*1000", -MOST);
        is("(0-1001)*1000+1", 1 - MOST);
        is("1001*(0-1000)+1", 1 - MOST);
        is("(0-1001)*(0-1000)-1", MOST - 1);
        is("1000*1000+1000*1000-1", MOST - 1);
        is("0-1000*1000-1000*1000+1", 1 - MOST);
        is("1000*1000-(0-1000*1000)-1", MOST - 1);
        is("1000*1000*1000*1000-1", MOST - 1);
        is("1000*1000*(0-1000*1000)+1", 1 - MOST);
        // 10 to the 12 is 3567587328 mod 2 to the 32, and -2 to the 31 is such a product, too
        is("(0-1000*1000)*(0-1000*1000)", MOST);
        is("8192*512*512", MOST);
        is("(0-8192)*512*512", -MOST);
        is("min(1000*1000,1001*1000)", MOST);
        is("max(0-1001*1000,0-1000*1000)", -MOST);
    }

    /** The same in turns, walks and cold: 9999 * 101 is held ahead of the difference. */
    private static void heldEverywhere() {
        CHECK.due("P10 held in turns", Check.told("doors 2;porter a turns 9999*101-1<1000*1000;").order(0), 3);
        CHECK.due("P10 held below", Check.told("doors 2;porter a turns (0-9999)*101+1>(0-1000)*1000;").order(0), 3);
        CHECK.due("P10 like ones", Check.told("doors 2;porter a turns 9999*101=9999*9999;").order(0), 3);
        CHECK.due("P9 held in walks",
                Check.told("doors 2;porter a turns all;walks 9999*101-1<1000*1000;").porter(0, 2), 1);
        CHECK.due("P9 held below in walks",
                Check.told("doors 2;porter a turns all;walks (0-9999)*101+1>(0-1000)*1000;").porter(0, 2), 1);
        CHECK.due("P13 held in cold", Check.told("doors 2;cold 9999*101-9999*100-90;").cold(1), 20);
        CHECK.due("P13 held in a question", asked("often 9999*101-1<1000*1000"), 2);
    }

    /** I "/ gives the greatest whole number not above, by 0 it gives 0". */
    private static void quotients() {
        is("5/6", 0);
        is("6/6", 1);
        is("7/6", 1);
        is("11/6", 1);
        is("12/6", 2);
        is("0/6", 0);
        is("(0-1)/6", -1);
        is("(0-5)/6", -1);
        is("(0-6)/6", -1);
        is("(0-7)/6", -2);
        is("1/(0-6)", -1);
        is("6/(0-6)", -1);
        is("7/(0-6)", -2);
        is("(0-5)/(0-6)", 0);
        is("(0-6)/(0-6)", 1);
        is("(0-7)/(0-6)", 1);
        is("0/(0-6)", 0);
        is("5/1", 5);
        is("(0-5)/(0-1)", 5);
        is("5/(0-1)", -5);
        is("5/0", 0);
        is("0/0", 0);
        is("(0-5)/0", 0);
        is("1000*1000/0", 0);
        is("5/(3-3)+1", 1);
        is("1000*1000/(0-1)", -MOST);
        is("1000*1000/9999", 100);
        is("(0-1000*1000)/(0-1)", MOST);
        is("(0-1)/9999", -1);
        CHECK.due("P10 by 0 in turns", Check.told("doors 3;porter a turns 2/number=0;").order(0), 1);
        CHECK.due("P13 by 0 in cold", Check.told("doors 3;cold 9/number;").cold(1), 9 + 4);
        CHECK.due("P9 by 0 in walks",
                Check.told("doors 3;porter a turns all;porter b turns all;walks 1/who=0;").porter(0, 2), 1);
    }

    /** I "All from the left on": sums, products, and products ahead of sums. */
    private static void fromTheLeft() {
        is("9-5-3", 1);
        is("9-5+3", 7);
        is("9+5-3", 11);
        is("60/6/5", 2);
        is("7/2*2", 6);
        is("2*7/2", 7);
        is("2*7/4", 3);
        is("1+2*3", 7);
        is("2*3+1", 7);
        is("9-2*3", 3);
        is("9-8/4", 7);
        is("(1+2)*3", 9);
        is("9-(5-3)", 7);
        is("60/(6/5)", 60);
        is("2*3-4*5+6/2", -11);
        is("min(3,4)", 3);
        is("min(4,3)", 3);
        is("min(3,3)", 3);
        is("max(3,4)", 4);
        is("max(4,3)", 4);
        is("max(3,3)", 3);
        is("max(0-1,0-2)*2", -2);
        is("min(1,2)-max(3,4)", -3);
    }

    /** SIGN < or > or = at one below, at like ones, at one above. */
    private static void signs() {
        PorterDoors x = Check.told("doors 5;");
        CHECK.due("I number<2", Check.ask(x, "last number<2"), 1);
        CHECK.due("I number>2", Check.ask(x, "first number>2"), 3);
        CHECK.due("I first number=2", Check.ask(x, "first number=2"), 2);
        CHECK.due("I last number=2", Check.ask(x, "last number=2"), 2);
        CHECK.due("I number<0", Check.ask(x, "often number<0"), 0);
        CHECK.due("I number>4", Check.ask(x, "often number>4"), 0);
        CHECK.due("I number>0-1", Check.ask(x, "often number>0-1"), 5);
        CHECK.due("I number<5", Check.ask(x, "often number<5"), 5);
        CHECK.due("I sums on both sides", Check.ask(x, "often number*2-1<number+2"), 3);
    }

    /** TEST: BOTH { or BOTH }. BOTH: FACT { and FACT }: and ahead of or, not for its fact alone. */
    private static void joins() {
        String[] tests = {"all or not all and not all", "not all and not all or all", "all or all and not all",
            "not all or all", "not not all", "all and all and all", "not all or not all or all",
            "not [not all and all]", "not 1=2 and not 2=1", "not 1=2 or 1=2", "[[all]]"};
        for (String test : tests) {
            CHECK.due("I holds: " + test, asked("often " + test), 2);
            CHECK.due("I does not: not [" + test + "]", asked("often not [" + test + "]"), 0);
            CHECK.due("P10 holds: " + test, Check.told("doors 2;porter a turns " + test + ";").order(0), 3);
            CHECK.due("P9 holds: " + test,
                    Check.told("doors 2;porter a turns all;walks " + test + ";").porter(0, 2), 1);
        }
        for (String test : new String[] {"[all or not all] and not all", "not all and [not all or all]",
            "not all or all and not all", "all and not all", "not all or not all", "not [all or not all]"}) {
            CHECK.due("I does not hold: " + test, asked("often " + test), 0);
        }
    }

    /** IV "total SUM (of all together, not held)". */
    private static void totals() {
        CHECK.due("P35 two of the most", asked("total 1000*1000"), 2 * MOST);
        CHECK.due("P35 two of the least", asked("total 0-1000*1000"), -2 * MOST);
        CHECK.due("P35 just above", asked("total 9999*50+51"), 2 * (9999 * 50 + 51));
        PorterDoors y = Check.told("doors 24;");
        CHECK.due("P35 24 of the most", Check.ask(y, "total 9999*9999"), 24 * MOST);
        CHECK.due("P35 24 of the least", Check.ask(y, "total 0-9999*9999"), -24 * MOST);
        CHECK.due("P35 most, held", Check.ask(y, "most 1000*1000+number"), MOST);
        CHECK.due("P35 least, held", Check.ask(y, "least 0-1000*1000-number"), -MOST);
        CHECK.due("P35 below 0 all", Check.ask(y, "most 0-1-number"), -1);
        CHECK.due("P35 above 0 all", Check.ask(y, "least 1+number"), 1);
    }

    private static final List<String> IN_TURNS = List.of("night", "number", "colour");
    private static final List<String> IN_WALKS = List.of("night", "who", "opened", "tired");
    private static final List<String> IN_COLD = List.of("night", "number", "colour", "open", "turned");
    private static final List<String> IN_ASK = List.of("night", "number", "colour", "open", "turned",
            "jammed", "by 1", "near 1");

    /** I and IV: which words are a PART behind turns, in walks, in cold, in a question. */
    private static void wordsByPlace() {
        for (String word : WORDS) {
            place("doors 3;porter p turns |" + word + "=1;", IN_TURNS.contains(word));
            place("doors 3;porter p turns 1<2 and 2=max(1,|" + word + ");", IN_TURNS.contains(word));
            place("doors 3;walks |" + word + "=1;", IN_WALKS.contains(word));
            place("doors 3;walks 1=(1+|" + word + ");", IN_WALKS.contains(word));
            place("doors 3;cold |" + word + ";", IN_COLD.contains(word));
            place("doors 3;cold 1-min(|" + word + ",1);", IN_COLD.contains(word));
            // what may stand in one place may not therefore stand in the next one
            place("doors 3;cold 1;walks all;porter p turns |" + word + "=1;", IN_TURNS.contains(word));
            place("doors 3;walks who=1;cold |" + word + ";", IN_COLD.contains(word));
            place("doors 3;cold open;walks |" + word + "=1;", IN_WALKS.contains(word));
            ask("total |" + word, IN_ASK.contains(word));
            ask("often 1=1 and 1+|" + word + ">0", IN_ASK.contains(word));
        }
        for (String word : new String[] {"first", "last", "often", "total", "most", "least", "doors", "porter",
            "turns", "paint", "stiff", "walks", "cold", "ill", "all", "not", "and", "or", "p", "abcdefg"}) {
            place("doors 3;porter p turns 1=|" + word + ";", false);
            place("doors 3;walks 1=|" + word + ";", false);
            place("doors 3;cold |" + word + ";", false);
            ask("total |" + word, false);
        }
    }

    private static void place(String marked, boolean stands) {
        if (stands) {
            CHECK.taken(marked.replace("|", ""), marked.split(";").length);
        } else {
            CHECK.marked(marked, 1);
        }
    }

    private static void ask(String marked, boolean stands) {
        PorterDoors x = Check.told("doors 3;porter p turns all;");
        long answer = Check.ask(x, marked.replace("|", ""));
        CHECK.due("P35 an answer to " + marked, answer != PorterDoors.NOTHING, stands);
        CHECK.due("P5 fault of " + marked, x.fault(0), stands ? 0 : 1);
        CHECK.due("P5 place of " + marked, x.fault(1), stands ? -1 : marked.indexOf('|'));
    }

    /** What each word is worth, from its least to its most. */
    private static void worths() {
        String all = "doors 24;paint 0 9;stiff 99;";
        PorterDoors x = Check.told(all + "porter a turns number=0;");
        Check.become(x, 0, 3, 1, 231, 5, 1, 6, 99, 9, 98, 74, 1);
        worth(x, "night", 999, 999);
        worth(x, "number", 0, 23);
        worth(x, "colour", 0, 9);
        worth(x, "open", 0, 1);
        worth(x, "turned", 0, 99);
        worth(x, "jammed", 0, 1);
        worth(x, "by 0", 0, 1);
        worth(x, "near 0", 0, 1);
        CHECK.due("IV jammed at 99", Check.ask(x, "last jammed=1"), 0);
        CHECK.due("IV not at 98", Check.ask(x, "often turned=98"), 1);
        CHECK.due("IV the last door is open", Check.ask(x, "last open=1"), 23);
        // in cold, at the same doors
        cold("number", 0, 23 * 24 / 2);
        cold("colour", 4, 4);
        cold("night", 0, 0);
        cold("turned", 0, 0);
        cold("open", 0, 0);
        cold("9*night", 7, 24 * 63);
        PorterDoors y = Check.told("doors 24;porter a turns all;cold open*10+turned;");
        CHECK.due("P13 open and turned behind the walk", y.cold(1), 24 * 11);
        CHECK.due("P13 shut and turned twice", y.cold(2) - y.cold(1), 24 * 2);
        inWalks();
    }

    private static void worth(PorterDoors x, String word, long least, long most) {
        CHECK.due("IV least " + word, Check.ask(x, "least " + word), least);
        CHECK.due("IV most " + word, Check.ask(x, "most " + word), most);
    }

    private static void cold(String sum, int night, int due) {
        PorterDoors x = Check.atNight("doors 24;paint 5 4;cold " + sum + ";", night);
        CHECK.due("P13 cold " + sum + " in night " + night, x.cold(1), due);
    }

    private static void inWalks() {
        String text = Check.porters(24, 10, "not all");
        PorterDoors x = Check.told(text + "walks who=9 or tired=99 or opened=24 or night=999;");
        willing(x, "the last one alone", 1 << 9);
        Check.become(x, 5 + 72, 99, 5 + 73, 98);
        willing(x, "tired 99", 1 << 9 | 1);
        for (int d = 0; d < 23; d++) {
            x.turn(d);
        }
        willing(x, "23 open", 1 << 9 | 1);
        x.turn(23);
        willing(x, "24 open", 1023);
        x.turn(0);
        Check.become(x, 0, 3, 1, 230, 5 + 72, 0);
        willing(x, "night 998", 1 << 9);
        x.nights(1);
        willing(x, "night 999", 1023);
    }

    private static void willing(PorterDoors x, String when, int due) {
        int bits = 0;
        for (int p = 0; p < 10; p++) {
            bits |= x.porter(p, 2) << p;
        }
        CHECK.due("P9 whose walks holds, " + when, bits, due);
    }

    private static final String[][] KINDS = {{"(", ")", "1=|1"}, {"min (", ",2)", "1=|1"},
        {"max(", ",2)", "1=|1"}, {"[", "]", "|all"}, {"not ", "", "|all"}};

    /** So many of one kind, open at once, about 1 or all. */
    private static String nest(String[] kind, int n) {
        String core = kind[2].substring(0, kind[2].indexOf('|'));
        String inner = kind[2].substring(kind[2].indexOf('|') + 1);
        return core + kind[0].repeat(n) + inner + kind[1].repeat(n);
    }

    /** I "4 the 7th of ( [ not that is open at once": six of each kind are taken, and of any mixture. */
    private static void sixDeep() {
        for (String[] kind : KINDS) {
            for (int n : new int[] {1, 5, 6}) {
                CHECK.taken("doors 3;porter p turns " + nest(kind, n) + ";", 2);
                CHECK.taken("doors 3;walks " + nest(kind, n) + ";", 2);
                CHECK.due("P35 six deep", asked("often " + nest(kind, n)) >= 0, true);
            }
        }
        for (int n = 0; n <= 6; n++) {
            CHECK.taken("doors 3;cold " + "(".repeat(n) + "min(".repeat(6 - n) + "1" + ",1)".repeat(6 - n)
                    + ")".repeat(n) + ";", 2);
            CHECK.taken("doors 3;walks " + "not ".repeat(n) + "[".repeat(6 - n) + "all" + "]".repeat(6 - n) + ";", 2);
            CHECK.taken("doors 3;walks " + "[".repeat(n) + "(".repeat(6 - n) + "1" + ")".repeat(6 - n) + "=1"
                    + "]".repeat(n) + ";", 2);
            CHECK.taken("doors 3;walks " + "not ".repeat(n) + "1=" + "max(1,".repeat(6 - n) + "1"
                    + ")".repeat(6 - n) + ";", 2);
        }
    }

    /** Six deep, with as much as can wait on each level: all of it counts. */
    private static void sixDeepWorth() {
        String sum = "1";
        for (int k = 1; k <= 6; k++) {
            is("9-1*min(9," + sum + ")", 9 - k);
            sum = "1+1*max(0," + sum + ")";
            is(sum, k + 1);
        }
        CHECK.due("P10 six deep behind all that waits",
                Check.told("doors 3;porter a turns not all or all and number*3=number+" + sum + "-5;").order(0), 2);
        CHECK.due("P13 six deep", Check.told("doors 3;cold " + sum + ";").cold(1), 21);
        String test = "number=1";
        for (int k = 1; k <= 6; k++) {
            test = "not all or all and [" + test + "]";
        }
        CHECK.due("P10 six tests deep", Check.told("doors 3;porter a turns " + test + ";").order(0), 2);
        CHECK.due("P35 six tests deep", Check.ask(Check.told("doors 3;"), "first " + test), 1);
        CHECK.due("P35 six nots, open", Check.ask(Check.told("doors 3;"), "first not not not not not not number=2"), 2);
        CHECK.due("P35 five nots", Check.ask(Check.told("doors 3;"), "first not not not not not number=0"), 1);
    }

    /** "at it": behind six of any kinds the seventh of each kind, at its own byte. */
    private static void seventh() {
        String[] facts = {"[".repeat(6), "not ".repeat(6), "not [ ".repeat(3), "[[[not not [", "not [not not[["};
        for (String six : facts) {
            deep(six + "|[", 4);
            deep(six + "|not ", 4);
            deep(six + "|(", 4);
            deep(six + "min|(", 4);
            deep(six + "max |(", 4);
            deep(six + "1=|(", 4);
            deep(six + "1<2+min \n|(", 4);
            deep(six + "|not", 4);
            deep(six + "|nots", 1);
            deep(six + "|)", 1);
            deep(six + "|]", 1);
            deep(six + "min |1", 1);
            deep(six + "|", 1);
        }
        String[] sums = {"1=" + "(".repeat(6), "[[[(((", "not not not 1=max(1,(min(2,", "not [ not 1<((("};
        for (String six : sums) {
            deep(six + "|(", 4);
            deep(six + "min|(", 4);
            deep(six + "1+max|(", 4);
            deep(six + "|[", 1);
            deep(six + "|not", 1);
            deep(six + "1|(", 1);
            deep(six + "1|", 1);
        }
        CHECK.marked("doors 3;cold " + "(".repeat(6) + "|((", 4);
        CHECK.marked("doors 3;cold " + "min(".repeat(6) + "1*max|(1", 4);
        CHECK.marked("doors 3;cold 1+" + "(max(".repeat(3) + "1,|(", 4);
    }

    /** A test, up to where its fault is: behind turns, in walks, in a question. */
    private static void deep(String marked, int what) {
        CHECK.marked("doors 3;porter p turns " + marked, what);
        CHECK.marked("doors 3;walks " + marked, what);
        question("often " + marked, what);
    }

    private static void question(String marked, int what) {
        PorterDoors x = Check.told("doors 2;");
        CHECK.due("P35 " + marked, Check.ask(x, marked.replace("|", "")), PorterDoors.NOTHING);
        CHECK.due("P5 fault of " + marked, x.fault(0), what);
        CHECK.due("P5 place of " + marked, x.fault(1), marked.indexOf('|'));
    }

    /** "open at once (not until its FACT ends)": what is closed counts no more. */
    private static void closed() {
        for (String[] kind : KINDS) {
            String five = nest(kind, 5);
            String six = nest(kind, 6);
            CHECK.taken("doors 3;walks " + six + " and " + six + " or " + six + " and " + five + ";", 2);
            CHECK.taken("doors 3;porter p turns " + six + ";porter q turns " + six + ";walks " + six + ";", 4);
            CHECK.taken("doors 3;walks [" + five + " and " + five + " or " + five + "];", 2);
            CHECK.taken("doors 3;walks not " + five + " and not " + five + " or " + six + ";", 2);
        }
        CHECK.marked("doors 3;walks [not not not not not all and not not not not not |not all", 4);
        CHECK.marked("doors 3;walks [[[[[[all]]]]] and [[[[[|[all", 4);
        CHECK.marked("doors 3;cold ((((((1)))))+(((((|(1", 4);
        CHECK.taken("doors 3;cold (((((" + "(1)+(1)*(1)-min(1,2)" + ")))))+((((((1))))));", 2);
        CHECK.taken("doors 3;walks not [all] and [[[[[[all]]]]]];", 2);
        CHECK.marked("doors 3;walks not [all] and [[[[[[|[all]]]]]];", 4);
        CHECK.taken("doors 3;walks not 1=(((((1))))) or ((((((1))))))=1;", 2);
        CHECK.marked("doors 3;walks not 1=(((((|(1", 4);
        CHECK.marked("doors 3;walks not (1)=(((((|(1", 4);
        CHECK.marked("doors 3;walks not 1=1 and 1=((((((|(1", 4);
        CHECK.taken("doors 3;walks not not not not not not all and not not not not not not 1=1;", 2);
        CHECK.marked("doors 3;walks not [not [not [all] and not not |not all", 4);
        CHECK.marked("doors 3;walks not not not [not not all or not not |not all", 4);
        CHECK.taken("doors 3;cold min(" + "(((((1)))))" + ",1);", 2);
        CHECK.taken("doors 3;cold min((((((1))))),(((((1))))));", 2);
        CHECK.marked("doors 3;cold min((((((1))))),(((((|(1", 4);
        CHECK.marked("doors 3;cold min(1,2)+max(1,(((((|(1", 4);
    }

    /** IV "4 the 7th of ( [ not by near that is open at once (not until its FACT, by, near until its PART ends)". */
    private static void byAndNearDeep() {
        for (String word : new String[] {"by ", "near "}) {
            CHECK.due("P35 six, " + word, asked("total " + word.repeat(6) + "0") != PorterDoors.NOTHING, true);
            question("total " + word.repeat(6) + "|" + word + "0", 4);
            question("total " + word.repeat(6) + "|" + word.trim(), 4);
            question("total " + word.repeat(6) + "|(0)", 4);
            question("total " + word.repeat(6) + "min|(0,1)", 4);
            question("total " + word.repeat(6) + "|x", 1);
            question("total " + word.repeat(6) + "0 |x", 1);
            question("total ((((((|" + word + "0", 4);
            question("total (((((" + word + "|(0", 4);
            question("total (((((" + word + "|by 0", 4);
            question("total (((((" + word + "|near 0", 4);
            question("total (((((" + word + "max|(0", 4);
            question("often [[[[[[|" + word + "0=1", 4);
            question("often not not not not not " + word + "|(0", 4);
            question("often not not not not not not |" + word + "0=1", 4);
            question("often not " + word + "0=" + word + "((((|(0", 4);
            // its part ends: in sums and products, on both sides of a sign
            ends(word + "0" + ("+" + word + "0*" + word + "(0)").repeat(8));
            ends(word + word + word + word + word + word + "0+" + word + word + word + word + word + word + "0");
            ends("(((((0)))))*" + word + "(((((0)))))");
        }
        CHECK.due("P35 not, by, four brackets twice",
                asked("often not by ((((0))))=near ((((0)))) and not by ((((0))))=1") >= 0, true);
        CHECK.marked("doors 3;cold (((((|by 0", 1);
        CHECK.marked("doors 3;cold ((((((|near 0", 1);
        CHECK.marked("doors 3;walks not not not not not not |by 0=1", 1);
    }

    private static void ends(String sum) {
        PorterDoors x = Check.told("doors 2;");
        CHECK.due("P35 until its part ends, " + sum, Check.ask(x, "total " + sum) != PorterDoors.NOTHING, true);
        CHECK.due("P5 no fault, " + sum, x.fault(0), 0);
    }
}
