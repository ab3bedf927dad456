/**
 * The edges of promises 4 and 5: how many statements, doors, porters, which numbers, names, blanks,
 * words, and where each fault has its place (the sign | marks it).
 */
public final class TextEdgesTest {
    private static final Check CHECK = new Check("TextEdgesTest");
    private static final int NONE = PorterDoors.NONE;
    private static final String OWN = "doors porter turns paint open stiff walks cold ill number colour "
            + "turned who night opened tired jammed by near or and not all min max";
    private static final String P = "doors 3;porter p turns ";

    public static void main(String[] args) {
        statements();
        sixtyFirst();
        doors();
        firstAlone();
        tenPorters();
        oneEach();
        paint();
        open();
        stiff();
        ill();
        digits();
        names();
        ownNames();
        unlike();
        blanks();
        sideBySide();
        words();
        tooSoon();
        grammar();
        firstFault();
        faultTold();
        faultStays();
        asAtFirst();
        nothingLeft();
        CHECK.finish();
    }

    private static String ills(int statements) {
        return "doors 2;" + "ill 1;".repeat(statements - 1);
    }

    /** I "{ STATEMENT ; } (60 at most)"; P4 "how many STATEMENTS". */
    private static void statements() {
        for (int n : new int[] {1, 2, 59, 60}) {
            CHECK.taken(ills(n), n);
            CHECK.taken(ills(n) + "\n ", n);
        }
        CHECK.marked("|", 1);
        CHECK.marked(" |", 1);
        CHECK.marked("\n\n |", 1);
        CHECK.marked("|;", 1);
        CHECK.marked(ills(59) + "|;", 1);
        CHECK.marked(ills(59) + "|doors 2;", 1);
        CHECK.marked(ills(59) + "ill |101;", 2);
        CHECK.marked(ills(59) + "ill 1|", 1);
        CHECK.marked(ills(60) + "|ill 1;", 5);
        CHECK.taken("doors 2;" + "ill 1;".repeat(58) + "open 1;" + " ".repeat(1600 - 363), 60);
        CHECK.marked("doors 2;" + " ".repeat(1591) + "|x", 1);
        CHECK.marked("doors 2" + " ".repeat(1593) + "|", 1);
        CHECK.taken("doors 2" + " ".repeat(1592) + ";", 1);
    }

    /** I "5 ... a 61st STATEMENT (whatever stands there), at its first byte". */
    private static void sixtyFirst() {
        for (String stands : new String[] {";", "x", "doors 2;", "doors 1;", "7", "12345", "(", "abcdefg",
                "\t", "\u00ff", "porter", "walks all;walks", "ill 101;", "["}) {
            CHECK.marked(ills(60) + "|" + stands, 5);
            CHECK.marked(ills(60) + " \n|" + stands, 5);
        }
    }

    /** I "doors N (2 .. 24; ...)". */
    private static void doors() {
        CHECK.due("P6 2 doors", CHECK.taken("doors 2;", 1).has(0), 2);
        CHECK.due("P6 3 doors", CHECK.taken("doors 3;", 1).has(0), 3);
        CHECK.due("P6 23 doors", CHECK.taken("doors 23;", 1).has(0), 23);
        CHECK.due("P6 24 doors", CHECK.taken("doors 24;", 1).has(0), 24);
        CHECK.due("P6 24 doors of four digits", CHECK.taken("doors 0024;", 1).has(0), 24);
        for (String n : new String[] {"0", "1", "25", "26", "99", "100", "9999", "0001", "0025"}) {
            CHECK.marked("doors |" + n + ";", 2);
            CHECK.marked("doors |" + n, 2);
        }
    }

    /** I "(...; the first STATEMENT, and it alone)". */
    private static void firstAlone() {
        for (String text : new String[] {"open 1;", "porter a turns all;", "walks all;", "cold 1;", "ill 1;",
                "stiff 1;", "paint 1 1;", "turns", "number", "7", "x"}) {
            CHECK.marked("|" + text + "doors 2;", 1);
        }
        CHECK.marked("doors 2;|doors 2;", 1);
        CHECK.marked("doors 2;ill 1;|doors", 1);
        CHECK.marked("doors 2; |doors 1;", 1);
    }

    private static String porters(int n) {
        return Check.porters(2, n, "all");
    }

    /** I "porter NAME turns TEST (10 PORTERS)"; "5 one too many of a kind ..., at its first byte". */
    private static void tenPorters() {
        for (int n : new int[] {0, 1, 9, 10}) {
            PorterDoors x = CHECK.taken(porters(n), n + 1);
            CHECK.due("P6 porters", x.has(1), n);
            CHECK.due("P7 the last one", x.letter(n - 1, 0), n == 0 ? NONE : n);
            CHECK.due("P7 none behind him", x.letter(n, 0), NONE);
        }
        CHECK.marked(porters(10) + "|porter k turns all;", 5);
        CHECK.marked(porters(10) + "|porter a turns all;", 5);
        CHECK.marked(porters(10) + "\n|porter", 5);
        CHECK.marked(porters(10) + "|porter;", 5);
        CHECK.marked(porters(10) + "|porters a turns all;", 1);
        CHECK.marked(porters(10) + "|porte", 1);
        CHECK.taken(porters(10) + "ill 1;open 1;", 13);
        CHECK.marked(porters(9) + "porter |a turns all;", 3);
    }

    /** I "walks TEST, cold SUM (one each)"; "5 ... (a second walks, cold, too)". */
    private static void oneEach() {
        CHECK.taken("doors 2;walks all;cold 1;", 3);
        CHECK.taken("doors 2;cold 1;walks all;", 3);
        CHECK.marked("doors 2;walks all;|walks all;", 5);
        CHECK.marked("doors 2;walks all;cold 1; |walks", 5);
        CHECK.marked("doors 2;walks all;|walks ?", 5);
        CHECK.marked("doors 2;cold 1;|cold 1;", 5);
        CHECK.marked("doors 2;cold 1;walks all;\n|cold", 5);
        CHECK.marked("doors 2;cold 1;|cold;", 5);
        CHECK.marked("doors 2;walks all;|walk all;", 1);
        CHECK.marked("doors 2;cold 1;|colds 1;", 1);
        CHECK.marked("doors 2;walks not |walks;", 1);
        CHECK.marked("doors 2;cold |cold;", 1);
    }

    /** I "paint N N (a DOOR, from 0 on; 0 .. 9; the last one counts, 0 without)". */
    private static void paint() {
        PorterDoors x = CHECK.taken("doors 3;paint 0 9;paint 2 0;paint 2 1;", 4);
        CHECK.due("P8 the first door", x.door(0, 1), 9);
        CHECK.due("P8 0 without", x.door(1, 1), 0);
        CHECK.due("P8 the last door, the last one", x.door(2, 1), 1);
        CHECK.due("P8 the last one, 0", CHECK.taken("doors 2;paint 1 9;paint 1 0;", 3).door(1, 1), 0);
        CHECK.due("P8 door 23", CHECK.taken("doors 24;paint 23 5;", 2).door(23, 1), 5);
        CHECK.marked("doors 2;paint |2 1;", 2);
        CHECK.marked("doors 3;paint |3 1;", 2);
        CHECK.marked("doors 24;paint |24 1;", 2);
        CHECK.marked("doors 3;paint |9999 1;", 2);
        CHECK.marked("doors 3;paint |3 10;", 2);
        CHECK.marked("doors 3;paint 2 |10;", 2);
        CHECK.marked("doors 3;paint 2 |9999;", 2);
        CHECK.marked("doors 3;paint 2|;", 1);
        CHECK.marked("doors 3;paint 2 1 |1;", 1);
        CHECK.marked("doors 3;paint|;", 1);
    }

    /** I "open N (a DOOR that is not told open already)". */
    private static void open() {
        PorterDoors x = CHECK.taken("doors 3;open 0;open 2;", 3);
        CHECK.due("P12 the first and the last", x.later(0), 5);
        CHECK.due("P12 door 23", CHECK.taken("doors 24;open 23;", 2).later(0), 1 << 23);
        CHECK.due("P12 all", CHECK.taken("doors 2;open 1;open 0;", 3).later(0), 3);
        CHECK.marked("doors 2;open |2;", 2);
        CHECK.marked("doors 3;open |3;", 2);
        CHECK.marked("doors 24;open |24;", 2);
        CHECK.marked("doors 24;open |9999;", 2);
        CHECK.marked("doors 3;open 0;open |0;", 2);
        CHECK.marked("doors 3;open 2;open 1;open |2;", 2);
        CHECK.marked("doors 24;open 23;open |0023;", 2);
        CHECK.marked("doors 24;open 23;open |23", 2);
        CHECK.marked("doors 3;open 1 |2;", 1);
        CHECK.marked("doors 3;open|;", 1);
    }

    /** I "stiff N (0 .. 99; the last one counts, 0 without)". */
    private static void stiff() {
        CHECK.due("P6 0 without", CHECK.taken("doors 2;", 1).has(6), 0);
        CHECK.due("P6 stiff 0", CHECK.taken("doors 2;stiff 0;", 2).has(6), 0);
        CHECK.due("P6 stiff 1", CHECK.taken("doors 2;stiff 1;", 2).has(6), 1);
        CHECK.due("P6 stiff 98", CHECK.taken("doors 2;stiff 98;", 2).has(6), 98);
        CHECK.due("P6 stiff 99", CHECK.taken("doors 2;stiff 99;", 2).has(6), 99);
        CHECK.due("P6 the last one", CHECK.taken("doors 2;stiff 99;stiff 3;", 3).has(6), 3);
        CHECK.due("P6 the last one, 0", CHECK.taken("doors 2;stiff 99;stiff 0;", 3).has(6), 0);
        CHECK.marked("doors 2;stiff |100;", 2);
        CHECK.marked("doors 2;stiff |101;", 2);
        CHECK.marked("doors 2;stiff |9999;", 2);
        CHECK.marked("doors 2;stiff 99;stiff |100;", 2);
        CHECK.marked("doors 2;stiff|;", 1);
    }

    /** I "ill N (0 .. 100; the last one counts, 0 without)": told by the odds of the one door. */
    private static void ill() {
        int[] taken = {0, 1, 2, 50, 98, 99, 100};
        for (int n : taken) {
            CHECK.due("P22 ill " + n, CHECK.taken("doors 2;porter a turns all;ill " + n + ";", 3).odds(0), 100 - n);
        }
        CHECK.due("P22 0 without", CHECK.taken("doors 2;porter a turns all;", 2).odds(0), 100);
        CHECK.due("P22 the last one",
                CHECK.taken("doors 2;porter a turns all;ill 100;ill 7;", 4).odds(0), 93);
        CHECK.due("P22 the last one, 0",
                CHECK.taken("doors 2;porter a turns all;ill 100;ill 0;", 4).odds(0), 100);
        CHECK.marked("doors 2;ill |101;", 2);
        CHECK.marked("doors 2;ill |102;", 2);
        CHECK.marked("doors 2;ill |9999;", 2);
        CHECK.marked("doors 2;ill|;", 1);
    }

    /** I "N (1 to 4 digits)"; "where a number is asked, a 5th digit at itself". */
    private static void digits() {
        String[] asked = {"doors #;", "doors 3;paint # 1;", "doors 3;paint 1 #;", "doors 3;open #;",
            "doors 3;stiff #;", "doors 3;ill #;", "doors 3;cold #;", "doors 3;cold 1+#*2;",
            "doors 3;walks #=1;", "doors 3;walks 1=#;", P + "min(#,1)<(#);"};
        for (String text : asked) {
            for (String n : new String[] {"2", "02", "002", "0002"}) {
                CHECK.taken(text.replace("#", n), text.indexOf("3;") > 0 ? 2 : 1);
            }
            CHECK.marked(text.replaceFirst("#", "0000|2"), 1);
            CHECK.marked(text.replaceFirst("#", "9999|9"), 1);
            CHECK.marked(text.replaceFirst("#", "1234|567890"), 1);
            CHECK.marked(text.replaceFirst("#.*", "0000|0"), 1);
        }
        CHECK.due("P35 the greatest", Check.ask(Check.told("doors 2;"), "most 9999"), 9999);
        CHECK.due("P13 the greatest in cold", Check.told("doors 2;cold 9999-9950;").cold(1), 98);
        // where no number is asked, the number whole
        CHECK.marked("|12345", 1);
        CHECK.marked("doors 3 |12345;", 1);
        CHECK.marked("doors 3;|12345;", 1);
        CHECK.marked("doors 3;porter |12345 turns all;", 1);
        CHECK.marked("doors 3;cold 1 |12345;", 1);
        CHECK.marked("doors 3;cold (1)|12345;", 1);
    }

    /** I "NAMES: 1 to 6 letters"; "a 7th letter at itself". */
    private static void names() {
        String[] names = {"a", "z", "ab", "abcde", "abcdef", "zzzzzz", "aaaaaa"};
        for (String name : names) {
            PorterDoors x = CHECK.taken("doors 3;porter " + name + " turns all;", 2);
            for (int k = 0; k < 6; k++) {
                CHECK.due("P7 letter " + k + " of " + name, x.letter(0, k),
                        k < name.length() ? name.charAt(k) - 'a' + 1 : 0);
            }
        }
        CHECK.marked("doors 3;porter abcdef|g turns all;", 1);
        CHECK.marked("doors 3;porter zzzzzz|z", 1);
        CHECK.marked("doors 3;porter abcdef|ghijklmnop turns all;", 1);
        CHECK.marked("doors 3;porter abcdef turns all;porter abcdef|g turns all;", 1);
        CHECK.marked("doors 3;porter |", 1);
        CHECK.marked("doors 3;porter |;", 1);
        CHECK.marked("doors 3;porter |A turns all;", 1);
        CHECK.marked("doors 3;porter |` turns all;", 1);
        CHECK.marked("doors 3;porter |{ turns all;", 1);
        CHECK.marked("doors 3;porter a|Z turns all;", 1);
        CHECK.marked("doors 3;porter |1 turns all;", 1);
        CHECK.marked("doors 3;porter a|1 turns all;", 1);
        CHECK.marked("doors 3;porter abcdef|1 turns all;", 1);
        CHECK.marked("doors 3;porter a |b turns all;", 1);
        CHECK.marked("doors 3;porter |\u00e4 turns all;", 1);
    }

    /** I "no OWN WORD": each of the 25 is none; a letter more or less, and it is one. */
    private static void ownNames() {
        String[] own = OWN.split(" ");
        CHECK.due("I how many own words", own.length, 25);
        for (String word : own) {
            CHECK.marked("doors 3;porter |" + word + " turns all;", 1);
            CHECK.marked("doors 3;porter |" + word, 1);
            String less = word.substring(0, word.length() - 1);
            CHECK.taken("doors 3;porter " + less + " turns all;", 2);
            if (word.length() < 6) {
                CHECK.taken("doors 3;porter " + word + "x turns all;", 2);
                CHECK.taken("doors 3;porter x" + word + " turns all;", 2);
            } else {
                CHECK.marked("doors 3;porter " + word + "|x turns all;", 1);
            }
        }
        for (String word : new String[] {"first", "last", "often", "total", "most", "least"}) {
            CHECK.taken("doors 3;porter " + word + " turns all;", 2);
        }
    }

    /** I "unlike ones"; "3 a NAME that is there already, at it". */
    private static void unlike() {
        CHECK.taken("doors 3;porter a turns all;porter aa turns all;porter b turns all;porter ab turns all;", 5);
        CHECK.taken("doors 3;porter abcdef turns all;porter abcdeg turns all;porter bbcdef turns all;"
                + "porter abcde turns all;porter bcdef turns all;", 6);
        CHECK.marked("doors 3;porter a turns all;porter |a turns all;", 3);
        CHECK.marked("doors 3;porter a turns all;porter b turns all;porter\n |a", 3);
        CHECK.marked("doors 3;porter a turns all;porter b turns all;porter |b;", 3);
        CHECK.marked("doors 3;porter abcdef turns all;porter |abcdef ?", 3);
        CHECK.marked(porters(9) + "porter |i turns all;", 3);
        CHECK.taken(porters(9) + "porter ii turns all;", 11);
        // a name of a corridor that has gone is free
        PorterDoors x = Check.told("doors 3;porter a turns all;");
        CHECK.due("P4 the name again", Check.corridor(x, "doors 3;porter a turns all;"), 2);
        CHECK.due("P4 twice", Check.corridor(x, "doors 3;porter b turns all;porter b turns all;"), NONE);
        CHECK.due("P4 the name of a text with a fault", Check.corridor(x, "doors 3;porter b turns all;"), 2);
    }

    /** I "Blanks (10, 32) are where one likes". */
    private static void blanks() {
        String[] tokens = ("doors 4 ; porter p turns not [ number < 1 or all ] and min ( 1 , 2 ) * 3 = night / 2 ;"
                + " paint 1 2 ; open 3 ; walks who > 0 ; cold ( open + 1 ) - max ( turned , 2 ) ; ill 5 ;")
                .split(" ");
        for (String blank : new String[] {" ", "\n", "  ", "\n\n", " \n "}) {
            CHECK.taken(String.join(blank, tokens), 7);
            CHECK.taken(blank + String.join(blank, tokens) + blank, 7);
        }
        CHECK.taken("doors 4;porter p turns not[number<1 or all]and min(1,2)*3=night/2;", 2);
        for (int b : new int[] {0, 9, 11, 13, 31, 33, 127, 128, 138, 160, 255}) {
            char sign = (char) b;
            CHECK.marked("|" + sign + "doors 4;", 1);
            CHECK.marked("doors|" + sign + "4;", 1);
            CHECK.marked("doors 4|" + sign + ";", 1);
            CHECK.marked("doors 4;|" + sign, 1);
            CHECK.marked("doors 4;cold 1|" + sign + "+1;", 1);
            CHECK.marked("doors 4;walks all|" + sign + "and all;", 1);
        }
    }

    /** I "(words and numbers side by side need one)". */
    private static void sideBySide() {
        CHECK.marked("doors|2;", 1);
        CHECK.marked("doors 2;open|1;", 1);
        CHECK.marked("doors 2;paint|1 2;", 1);
        CHECK.marked("doors 13;paint 12|;", 1);
        CHECK.marked("doors 2;ill|1;", 1);
        CHECK.marked("doors 2;stiff|12345;", 1);
        CHECK.marked("doors 2;cold|1;", 1);
        CHECK.marked("doors 2;|coldopen;", 1);
        CHECK.marked("doors 2;|walksall;", 1);
        CHECK.marked("doors 2;walks |notall;", 1);
        CHECK.marked("doors 2;|porterp turns all;", 1);
        CHECK.marked("doors 2;porter pturns |all;", 1);
        CHECK.marked("doors 2;porter p |turnsall;", 1);
        CHECK.marked("doors 2;walks 1=2|and all;", 1);
        CHECK.marked("doors 2;walks 1=2|or all;", 1);
        CHECK.marked("doors 2;walks 1=2 and|1=2;", 1);
        CHECK.marked("doors 2;walks 1=2 or|1=2;", 1);
        CHECK.marked("doors 2;walks not|1=2;", 1);
        CHECK.marked("doors 2;cold min|2(1,2);", 1);
        CHECK.marked("doors 2;cold |minimum(1,2);", 1);
        CHECK.marked("doors 2;cold night|2;", 1);
        CHECK.marked("doors 2;cold 2|night;", 1);
        CHECK.taken("doors 2;cold(1)+min(1,2)/night*open-(2);walks[1=2]or[not[all]and[all]];", 3);
        CHECK.taken("doors 2;walks 1<night or(2)>3 and[all];", 2);
    }

    /** I "words ... whole, at their first byte": one letter more or less is no such word. */
    private static void words() {
        for (String word : "porter paint open stiff walks cold ill".split(" ")) {
            CHECK.marked("doors 3;|" + word + "s 1;", 1);
            CHECK.marked("doors 3;|" + word.substring(0, word.length() - 1) + " 1;", 1);
            CHECK.marked("doors 3;|" + word.substring(0, word.length() - 1), 1);
            CHECK.marked("doors 3;|" + word.toUpperCase() + " 1;", 1);
        }
        CHECK.marked("|door 2;", 1);
        CHECK.marked("|doorss 2;", 1);
        CHECK.marked("|d", 1);
        for (String word : OWN.split(" ")) {
            if (!"porter paint open stiff walks cold ill".contains(word)) {
                CHECK.marked("doors 3;|" + word + " 1;", 1);
            }
        }
        for (String word : new String[] {"turn", "turnss", "all", "t", "turnsturns", ";", "=", "1"}) {
            CHECK.marked("doors 3;porter p |" + word + " all;", 1);
        }
        for (String word : new String[] {"al", "alls", "nots", "no", "nigh", "nights", "abcdefgh"}) {
            CHECK.marked("doors 3;walks |" + word + ";", 1);
            CHECK.marked("doors 3;walks all and |" + word + ";", 1);
        }
        for (String word : new String[] {"an", "ands", "o", "ors", "nor", "all", "not", "1", "["}) {
            CHECK.marked("doors 3;walks all |" + word + " all;", 1);
        }
        for (String word : new String[] {"mi", "ma", "mins", "maxs", "mix"}) {
            CHECK.marked("doors 3;cold |" + word + "(1,2);", 1);
        }
    }

    /** I "at the text's length, if it ends too soon": behind each token, with and without blanks. */
    private static void tooSoon() {
        String[] statements = {
            "porter p turns not [ number < 1 or all ] and min ( 1 , 2 ) * 3 = night / 2",
            "walks who > 0 and not tired = 1 or [ [ opened < 3 - 1 ] ]", "paint 1 2", "open 3", "stiff 7", "ill 5",
            "cold ( open + 1 ) - max ( turned , colour ) / 2"};
        tooSoon("", "doors 4");
        for (String statement : statements) {
            tooSoon("doors 4;", statement);
            CHECK.taken("doors 4;" + statement + ";", 2);
            CHECK.taken("doors 4;" + statement + " ;\n", 2);
        }
    }

    private static void tooSoon(String ahead, String statement) {
        String[] tokens = statement.split(" ");
        String text = ahead;
        for (int k = 0; k < tokens.length; k++) {
            text += (k == 0 ? "" : " ") + tokens[k];
            CHECK.marked(text + "|", 1);
            CHECK.marked(text + " |", 1);
            CHECK.marked(text + "\n \n|", 1);
        }
    }

    /** I the language itself: where a fact, a sum, a part, a sign is asked, and nothing else. */
    private static void grammar() {
        for (String none : new String[] {";", "or all;", "and all;", "];", ");", "=1;", "<;", "*1;", "+1=1;",
                "-1=1;", ",;", "[];", "();", "not;", "not or all;", "min;", "turns;", "doors;", "1;", "[1];",
                "1+;", "1=;", "1<>2;", "1==2;", "1=2=3;", "(all);", "(1=2);", "1=all;", "1=[1];", "all all;",
                "all=1;", "[all]=1;", "all or;", "all and;", "all];", "1=1);", "[all;", "[all);", "(1;", "(1]=1;",
                "(1,2)=1;", "min(1)=1;", "min()=1;", "min(1,)=1;", "min(1,2,3)=1;", "min[1,2]=1;", "1 2=2;",
                "1(2)=2;", "1 night=1;", "not not;", "1*/2=1;", "1=1 or or all;", "1=1 and and all;", "1%2=1;"}) {
            PorterDoors x = new PorterDoors();
            CHECK.due("P4 walks " + none, Check.corridor(x, "doors 3;walks " + none), NONE);
            CHECK.due("P5 walks " + none, x.fault(0), 1);
            CHECK.due("P4 turns " + none, Check.corridor(x, P + none), NONE);
            CHECK.due("P5 turns " + none, x.fault(0), 1);
        }
        CHECK.marked("doors 3;cold |;", 1);
        CHECK.marked("doors 3;cold |all;", 1);
        CHECK.marked("doors 3;cold |not 1;", 1);
        CHECK.marked("doors 3;cold |[1];", 1);
        CHECK.marked("doors 3;cold 1|=1;", 1);
        CHECK.marked("doors 3;cold 1+|;", 1);
        CHECK.marked("doors 3;cold (|);", 1);
        CHECK.marked("doors 3;cold (1|;", 1);
        CHECK.marked("doors 3;cold (1)|);", 1);
        CHECK.marked("doors 3;cold min(1|);", 1);
        CHECK.marked("doors 3;cold min(1,2|,3);", 1);
        CHECK.marked("doors 3;cold max|[1,2];", 1);
        CHECK.marked("doors 3;cold |-1;", 1);
        CHECK.marked("doors 3;cold 1*|-1;", 1);
        CHECK.marked("doors 3;cold 1 |or 2;", 1);
    }

    /** I "FAULTS, the first along the text". */
    private static void firstFault() {
        CHECK.marked("doors |1;;", 2);
        CHECK.marked("doors |25x;", 2);
        CHECK.marked("doors 2;open |2 2;", 2);
        CHECK.marked("doors 2;paint |2;", 2);
        CHECK.marked("doors 2;porter a turns all;porter |a;", 3);
        CHECK.marked("doors 2;porter a turns |al;porter a;", 1);
        CHECK.marked("doors 2;walks all;|walks [[[[[[[all", 5);
        CHECK.marked("doors 2;cold (((((|x", 1);
        CHECK.marked("doors 2;cold ((((((|(x", 4);
        CHECK.marked("doors 2;cold 1;open |7;cold 1;", 2);
        CHECK.marked(porters(10) + "open |2;porter", 2);
        CHECK.marked(porters(9) + "porter |a turns all;porter k turns all;", 3);
    }

    /** P5 "what 0; 0 without, and ahead of any", "its place (1; NONE without). NONE for another what". */
    private static void faultTold() {
        PorterDoors x = new PorterDoors();
        faultIs(x, "ahead of any", 0, NONE);
        Check.corridor(x, "doors 1;");
        faultIs(x, "a fault", 2, 6);
        Check.ask(x, "x");
        faultIs(x, "asked without a corridor", 2, 6);
        Check.corridor(x, "");
        faultIs(x, "at 0", 1, 0);
        Check.corridor(x, "doors 2;");
        faultIs(x, "none", 0, NONE);
        Check.ask(x, "total ?");
        faultIs(x, "of a question", 1, 6);
        Check.see(x, 9, 9);
        x.on();
        x.turn(9);
        faultIs(x, "of nothing else", 1, 6);
        Check.ask(x, "total 1");
        faultIs(x, "of a question without", 0, NONE);
        Check.corridor(x, "doors 2;doors");
        faultIs(x, "of the latest of both", 1, 8);
        Check.ask(x, "first all");
        faultIs(x, "asked of the corridor that stays", 0, NONE);
    }

    private static void faultIs(PorterDoors x, String when, int what, int place) {
        CHECK.due("P5 fault, " + when, x.fault(0), what);
        CHECK.due("P5 place, " + when, x.fault(1), place);
        for (int k : new int[] {Integer.MIN_VALUE, -1, 2, 3, Integer.MAX_VALUE}) {
            CHECK.due("P5 fault " + k + ", " + when, x.fault(k), NONE);
        }
    }

    private static PorterDoors moved() {
        PorterDoors x = Check.told("doors 3;porter ann turns number<2;porter b turns colour=2 or night=1;open 1;"
                + "paint 2 2;stiff 3;ill 40;walks tired<2 or who=0;cold open*7+turned;");
        Check.see(x, 0, 1);
        x.image();
        x.nights(1);
        x.paint(0, 2);
        x.send(1);
        Check.corridor(x, "?");
        return x;
    }

    /** P4 "NONE, refused (1), with a FAULT (all stays; ...)": each fault, whatever it has read before. */
    private static void faultStays() {
        String rich = "doors 24;porter x turns all;paint 1 9;open 5;stiff 1;ill 100;walks not all;cold 99;";
        for (String text : new String[] {"?", rich + "?", rich + "paint 1 10;", rich + "porter x", rich + "walks all;",
                rich + "open 5;", "doors 2;porter p turns [[[[[[[", rich.substring(0, rich.length() - 1)}) {
            PorterDoors seen = new PorterDoors();
            Check.corridor(seen, text);
            CHECK.stays("P4 " + text, () -> {
                PorterDoors x = moved();
                Check.corridor(x, text);
                return x;
            }, x -> Check.corridor(x, text), NONE, 1);
            // the fault alone is another one than before
            PorterDoors x = moved();
            PorterDoors twin = moved();
            Check.corridor(x, text);
            Check.corridor(twin, "?");
            CHECK.due("P4 the fault of " + text, x.fault(0) * 10000 + x.fault(1),
                    seen.fault(0) * 10000 + seen.fault(1));
            Check.corridor(x, "?");
            CHECK.due("P4 all stays, " + text, View.of(x).equals(View.of(twin)), true);
        }
    }

    /** P4 "Without one all is as at first, nothing is KEPT, SEEN or can be undone; the seed stays". */
    private static void asAtFirst() {
        String text = "doors 3;porter p turns number>0;open 2;ill 60;";
        PorterDoors x = moved();
        x.seed(4711);
        CHECK.due("P4 moved before", x.has(2) + x.has(7) + x.has(8) + x.has(9), 1 + 2 + 1 + 3);
        CHECK.due("P4 another", Check.corridor(x, text), 4);
        PorterDoors fresh = Check.told(text);
        fresh.seed(4711);
        fresh.image();
        x.image();
        CHECK.due("P4 as a new one", View.of(x).equals(View.of(fresh)), true);
        for (int k = 0; k < 12; k++) {
            CHECK.due("P4 the seed stays " + k, x.chance(1), fresh.chance(1));
        }
        CHECK.due("P4 as a new one behind nights", View.of(x).equals(View.of(fresh)), true);
        PorterDoors again = moved();
        String own = "doors 3;porter ann turns number<2;porter b turns colour=2 or night=1;open 1;paint 2 2;";
        Check.corridor(again, own);
        CHECK.due("P4 the night", again.has(2), 0);
        CHECK.due("P4 the doors", again.later(0), 2);
        CHECK.due("P4 the paint", again.door(0, 1), 0);
        CHECK.due("P4 turned", again.door(0, 2) + again.door(1, 2) + again.door(2, 2), 0);
        CHECK.due("P4 tired", again.porter(0, 0) + again.porter(1, 0), 0);
        CHECK.due("P4 cold", again.has(5), 0);
        CHECK.due("P4 kept, seen, to be undone", again.has(7) + again.has(8) + again.has(9), 0);
        CHECK.due("P33 nothing to undo", again.undo(), false);
        CHECK.due("P24 nothing seen", again.fits(NONE), 4);
    }

    /** Nothing of a text ahead, whole or with a fault, is in the next one. */
    private static void nothingLeft() {
        String rich = Check.porters(24, 10, "all") + "stiff 1;ill 100;walks who>8;cold 99;";
        for (int d = 0; d < 24; d++) {
            rich += d % 2 == 0 ? "paint " + d + " 9;" : "open " + d + ";";
        }
        for (String end : new String[] {"", "?"}) {
            for (String text : new String[] {"doors 2;", "doors 24;", "doors 24;porter a turns all and all;",
                "doors 3;porter b turns not all or all;porter c turns not not all;walks all;"}) {
                PorterDoors x = new PorterDoors();
                CHECK.due("P4 rich", Check.corridor(x, rich + end), end.isEmpty() ? 39 : NONE);
                CHECK.due("P4 " + text, Check.corridor(x, text), text.split(";").length);
                PorterDoors fresh = Check.told(text);
                CHECK.due("P4 as without it, " + text, View.of(x).equals(View.of(fresh)), true);
                for (int p = 0; p < 10; p++) {
                    CHECK.due("P35 by " + p + ", " + text, Check.ask(x, "total by " + p), Check.ask(fresh, "total by " + p));
                }
                for (int d = 0; d < 24; d++) {
                    CHECK.due("P8 paint, " + text, x.door(d, 1), fresh.door(d, 1));
                    CHECK.due("P8 open, " + text, x.door(d, 0), fresh.door(d, 0));
                    CHECK.due("P8 porters, " + text, x.door(d, 4), fresh.door(d, 4));
                }
                CHECK.due("P31 nights, " + text, x.nights(2), fresh.nights(2));
                CHECK.due("P32 nobody is ill, " + text, x.chance(9), 0);
                CHECK.due("P6 no stiff, " + text, x.has(6) + x.has(4), 0);
                CHECK.due("P4 rich again", Check.corridor(x, rich + end), end.isEmpty() ? 39 : NONE);
            }
        }
    }
}
