/**
 * Porters who turn doors: a corridor told as a text, the nights in which its porters walk, the
 * sets of porters and what they change, acts that can be undone, questions, images.
 *
 * <p>All rows are made in the constructor and used again: no call makes an object.
 */
public final class PorterDoors {
    public static final int NONE = -1;
    public static final long NOTHING = -1000000000000000L;

    private static final int MOST_BYTES = 1600;
    private static final int MOST_STATEMENTS = 60;
    private static final int MOST_DOORS = 24;
    private static final int MOST_PORTERS = 10;
    private static final int MOST_SETS = 1024;
    private static final int MOST_TURNED = 99;
    private static final int MOST_TIRED = 99;
    private static final int MOST_COLD = 999999;
    private static final int MOST_AHEAD = 60;
    private static final int LAST_NIGHT = 999;
    private static final int LAST_PAINT = 9;

    private static final int REFUSED_TAPE = 0;
    private static final int REFUSED_TEXT = 1;
    private static final int REFUSED_HAND = 2;
    private static final int REFUSED_NIGHTS = 3;
    private static final int REFUSED_UNDO = 4;
    private static final int REFUSED_SET = 5;

    private final int[] tape = new int[MOST_BYTES];
    private int taped = 0;
    private final Plan told = new Plan();
    private final Plan draft = new Plan();
    private final Program question = new Program();
    private final Reader reader = new Reader(tape, draft);
    private final Hall hall = new Hall();
    private final Hall trial = new Hall();
    private final Past past = new Past();
    private final Sums sums = new Sums();
    private final Rounds rounds = new Rounds(told, sums);
    private final Ahead ahead = new Ahead(hall, rounds);
    private final Sets sets = new Sets(told, hall, rounds);
    private final int[] image = new int[6 + 3 * MOST_DOORS + MOST_PORTERS];
    private int imageSize = 0;
    private final int[] refused = new int[6];
    private int seed = 1;

    public PorterDoors() {
    }

    public int feed(int a, int b, int c, int d, int e) {
        if (taped + 20 > MOST_BYTES) {
            refuse(REFUSED_TAPE);
            return NONE;
        }
        tapeNumber(a);
        tapeNumber(b);
        tapeNumber(c);
        tapeNumber(d);
        tapeNumber(e);
        return taped;
    }

    public boolean end(int n) {
        if (n < 0 || n > taped) {
            return refuse(REFUSED_TAPE);
        }
        taped = n;
        return true;
    }

    public int corridor() {
        draft.clear();
        reader.begin(takeTape(), draft.program);
        int statements = 0;
        while (statements <= MOST_STATEMENTS && (statements == 0 || reader.hasMore())) {
            reader.statement(statements);
            statements++;
        }
        if (reader.fault != 0) {
            refuse(REFUSED_TEXT);
            return NONE;
        }
        told.copy(draft);
        hall.begin(told);
        past.forget();
        sets.forgetSeen();
        forgetReckoned();
        return statements;
    }

    public int fault(int what) {
        if (what == 0) {
            return reader.fault;
        }
        return what == 1 ? reader.place : NONE;
    }

    public int has(int what) {
        switch (what) {
            case 0: return told.doors;
            case 1: return told.porters;
            case 2: return hall.row[Hall.NIGHT];
            case 3: return hall.opened();
            case 4: return jammedDoors();
            case 5: return hall.row[Hall.COLD];
            case 6: return told.stiff;
            case 7: return hall.keptTold();
            case 8: return sets.seenRows;
            case 9: return past.count;
            default: return NONE;
        }
    }

    public int letter(int porter, int k) {
        return isPorter(porter) && k >= 0 && k <= 5 ? told.letterOf(porter, k) : NONE;
    }

    public int door(int door, int what) {
        if (!isDoor(door)) {
            return NONE;
        }
        switch (what) {
            case 0: return hall.isOpen(door);
            case 1: return hall.row[Hall.PAINT + door];
            case 2: return hall.row[Hall.TURNED + door];
            case 3: return hall.isJammed(door, told.stiff) ? 1 : 0;
            case 4: return portersOf(door);
            default: return NONE;
        }
    }

    public int porter(int porter, int what) {
        if (!isPorter(porter)) {
            return NONE;
        }
        switch (what) {
            case 0: return hall.row[Hall.TIRED + porter];
            case 1: return Integer.bitCount(rounds.orderOf(hall, porter));
            case 2: return rounds.isWilling(hall, porter) ? 1 : 0;
            default: return NONE;
        }
    }

    public int order(int porter) {
        return isPorter(porter) ? rounds.orderOf(hall, porter) : NONE;
    }

    public int kept(int k, int what) {
        return k >= 0 && k < hall.keptTold() ? hall.keptAt(k, what) : NONE;
    }

    // ---- ahead

    public int later(int n) {
        return isTold() && ahead.reaches(n) ? ahead.open[n] : NONE;
    }

    public int cold(int n) {
        return isTold() && ahead.reaches(n) ? ahead.cold[n] : NONE;
    }

    public int back() {
        int now = hall.row[Hall.OPEN];
        for (int n = 1; n <= MOST_AHEAD && isTold() && ahead.reaches(n); n++) {
            if (ahead.open[n] == now) {
                return n;
            }
        }
        return NONE;
    }

    // ---- sets of porters

    public int row() {
        if (!isTold()) {
            return NONE;
        }
        int longest = 0;
        int here = 0;
        for (int d = 0; d < told.doors; d++) {
            here = hall.isOpen(d) == 1 ? here + 1 : 0;
            longest = Math.max(longest, here);
        }
        return longest;
    }

    public int changes(int set) {
        if (!isTold()) {
            return NONE;
        }
        sets.reckon();
        return set >= 0 && set < sets.count ? sets.changed[set] : NONE;
    }

    public int sends(int asked, int open) {
        int all = allDoors();
        if (!isTold() || (asked & ~all) != 0 || (open & ~asked) != 0) {
            return NONE;
        }
        return sets.fewest(asked, (hall.row[Hall.OPEN] & asked) ^ open);
    }

    public int alike() {
        return isTold() ? sets.changingNone() : NONE;
    }

    public int alone(int door) {
        return isDoor(door) ? sets.fewest(allDoors(), 1 << door) : NONE;
    }

    public int widest(int what) {
        if (!isTold() || what < 0 || what > 1) {
            return NONE;
        }
        int set = sets.widestSet();
        return what == 0 ? set : sets.openBehind(set);
    }

    public int rest(int n, int what) {
        if (told.porters == 0 || n < 1 || n > 40 || !isWithinNights(n) || what < 0 || what > 1) {
            return NONE;
        }
        int resting = 0;
        int least = coldWithout(0, n);
        for (int p = 1; p < told.porters; p++) {
            int here = coldWithout(p, n);
            if (here < least) {
                least = here;
                resting = p;
            }
        }
        return what == 0 ? resting : least;
    }

    public int odds(int door) {
        if (told.porters == 0 || !isWithinNights(1) || (door != NONE && !isDoor(door))) {
            return NONE;
        }
        if (door == NONE) {
            return 100 * told.porters;
        }
        int rows = (100 - told.ill) * told.porters * openWithout(NONE, door);
        for (int p = 0; p < told.porters; p++) {
            rows += told.ill * openWithout(p, door);
        }
        return rows;
    }

    // ---- who walked

    public int see() {
        int length = takeTape();
        if (!isSeeing(length)) {
            refuse(REFUSED_TEXT);
            return NONE;
        }
        sets.forgetSeen();
        for (int k = 0; k + 1 < length; k += 2) {
            sets.seeDoor(tape[k], tape[k + 1]);
        }
        return sets.seenRows;
    }

    public int fits(int k) {
        if (!isTold()) {
            return NONE;
        }
        sets.reckon();
        if (k == NONE) {
            return sets.fitCount;
        }
        return k >= 0 && k < sets.fitCount ? sets.fitting[k] : NONE;
    }

    public int walked(int porter) {
        if (!isPorter(porter)) {
            return NONE;
        }
        sets.reckon();
        int with = sets.fitsWith(porter);
        if (sets.fitCount == 0) {
            return NONE;
        }
        if (with == sets.fitCount) {
            return 1;
        }
        return with == 0 ? 2 : 0;
    }

    public int tells(int what) {
        if (!isTold() || what < 0 || what > 1) {
            return NONE;
        }
        sets.reckon();
        if (sets.fitCount == 0) {
            return NONE;
        }
        int door = sets.tellingDoor();
        return what == 0 ? door : sets.mostLeft(door);
    }

    // ---- acts

    public int send(int porter) {
        if (!isPorter(porter)) {
            refuse(REFUSED_HAND);
            return NONE;
        }
        past.keep(hall);
        int turned = rounds.walk(hall, porter);
        forgetReckoned();
        return turned;
    }

    public boolean turn(int door) {
        if (!isDoor(door) || hall.isJammed(door, told.stiff)) {
            return refuse(REFUSED_HAND);
        }
        past.keep(hall);
        hall.swing(door, told.stiff);
        forgetReckoned();
        return true;
    }

    public boolean oil(int door) {
        if (!isDoor(door) || hall.row[Hall.TURNED + door] == 0) {
            return refuse(REFUSED_HAND);
        }
        past.keep(hall);
        hall.row[Hall.TURNED + door] = 0;
        forgetReckoned();
        return true;
    }

    public boolean paint(int door, int colour) {
        if (!isDoor(door) || colour < 0 || colour > LAST_PAINT
                || hall.row[Hall.PAINT + door] == colour) {
            return refuse(REFUSED_HAND);
        }
        past.keep(hall);
        hall.row[Hall.PAINT + door] = colour;
        forgetReckoned();
        return true;
    }

    public int nights(int n) {
        if (!isTold() || n < 1 || n > 100 || !isWithinNights(n)) {
            refuse(REFUSED_NIGHTS);
            return NONE;
        }
        past.keep(hall);
        int walks = 0;
        for (int k = 0; k < n; k++) {
            walks += rounds.pass(hall, NONE);
        }
        forgetReckoned();
        return walks;
    }

    public int chance(int n) {
        if (!isTold() || n < 1 || n > 100 || !isWithinNights(n)) {
            refuse(REFUSED_NIGHTS);
            return NONE;
        }
        past.keep(hall);
        int ills = 0;
        for (int k = 0; k < n; k++) {
            int ill = drawIll();
            rounds.pass(hall, ill);
            ills += ill == NONE ? 0 : 1;
        }
        forgetReckoned();
        return ills;
    }

    public boolean undo() {
        if (past.count == 0) {
            return refuse(REFUSED_UNDO);
        }
        past.giveBack(hall);
        forgetReckoned();
        return true;
    }

    public boolean seed(int seed) {
        if (seed < 0) {
            return refuse(REFUSED_SET);
        }
        this.seed = seed;
        return true;
    }

    // ---- questions

    public long ask() {
        int length = takeTape();
        if (!isTold()) {
            return NOTHING;
        }
        question.size = 0;
        reader.begin(length, question);
        int asked = reader.question();
        return reader.fault == 0 ? answerTo(asked) : NOTHING;
    }

    // ---- images, refusals

    public int image() {
        int[] row = hall.row;
        imageSize = 0;
        write(row[Hall.NIGHT], 2);
        write(row[Hall.COLD], 3);
        for (int d = 0; d < told.doors; d++) {
            write(hall.isOpen(d), 1);
            write(row[Hall.TURNED + d], 1);
            write(row[Hall.PAINT + d], 1);
        }
        for (int p = 0; p < told.porters; p++) {
            write(row[Hall.TIRED + p], 1);
        }
        write(checkOf(image, imageSize), 1);
        return imageSize;
    }

    public int octet(int k) {
        return k >= 0 && k < imageSize ? image[k] : NONE;
    }

    public boolean on() {
        int length = takeTape();
        if (!isImage(length)) {
            return refuse(REFUSED_SET);
        }
        takeImage();
        past.forget();
        forgetReckoned();
        return true;
    }

    public int status(int what) {
        return what >= 0 && what < refused.length ? refused[what] : NONE;
    }

    // ---- helpers of the face

    private boolean refuse(int kind) {
        refused[kind]++;
        return false;
    }

    private boolean isTold() {
        return told.doors > 0;
    }

    private boolean isDoor(int door) {
        return door >= 0 && door < told.doors;
    }

    private boolean isPorter(int porter) {
        return porter >= 0 && porter < told.porters;
    }

    private boolean isWithinNights(int n) {
        return hall.row[Hall.NIGHT] + n <= LAST_NIGHT;
    }

    private int allDoors() {
        return (1 << told.doors) - 1;
    }

    /** What was reckoned from the hall as it was: whoever changes the hall calls this. */
    private void forgetReckoned() {
        rounds.forgetOrders();
        ahead.forget();
        sets.forget();
    }

    private void tapeNumber(int number) {
        for (int shift = 24; shift >= 0 && taped < MOST_BYTES; shift -= 8) {
            tape[taped] = number >> shift & 255;
            taped++;
        }
    }

    private int takeTape() {
        int length = taped;
        taped = 0;
        return length;
    }

    private int jammedDoors() {
        int jammed = 0;
        for (int d = 0; d < told.doors; d++) {
            jammed += hall.isJammed(d, told.stiff) ? 1 : 0;
        }
        return jammed;
    }

    private int portersOf(int door) {
        int count = 0;
        for (int p = 0; p < told.porters; p++) {
            count += rounds.orderOf(hall, p) >> door & 1;
        }
        return count;
    }

    private int coldWithout(int porter, int n) {
        trial.copy(hall);
        for (int k = 0; k < n; k++) {
            rounds.pass(trial, porter);
        }
        return trial.row[Hall.COLD];
    }

    private int openWithout(int porter, int door) {
        trial.copy(hall);
        rounds.pass(trial, porter);
        return trial.isOpen(door);
    }

    private boolean isSeeing(int length) {
        if (length < 2 || length > 48 || length % 2 != 0) {
            return false;
        }
        for (int k = 0; k + 1 < length; k += 2) {
            if (!isDoor(tape[k]) || tape[k + 1] > 1) {
                return false;
            }
        }
        return true;
    }

    /** The draw of 100 comes in each night by the seed, without porters too. */
    private int drawIll() {
        boolean isIll = draw(100) < told.ill;
        return isIll && told.porters > 0 ? draw(told.porters) : NONE;
    }

    private int draw(int m) {
        seed = (int) (1103515245L * seed + 12345L & 0x7fffffffL);
        return m > 0 ? seed / 64 % m : 0;
    }

    private long answerTo(int asked) {
        rounds.tellOrders(hall);
        int first = NONE;
        int last = NONE;
        int often = 0;
        long total = 0;
        int most = -Sums.HIGHEST;
        int least = Sums.HIGHEST;
        for (int d = 0; d < told.doors; d++) {
            sums.standAt(hall, d, told.stiff);
            int worth = sums.worth(question, 0, question.size);
            if (worth != 0) {
                first = first == NONE ? d : first;
                last = d;
                often++;
            }
            total += worth;
            most = Math.max(most, worth);
            least = Math.min(least, worth);
        }
        switch (asked) {
            case Words.FIRST: return first;
            case Words.LAST: return last;
            case Words.OFTEN: return often;
            case Words.TOTAL: return total;
            case Words.MOST: return most;
            case Words.LEAST: return least;
            default: return NOTHING;
        }
    }

    private void write(int number, int bytes) {
        for (int shift = 8 * bytes - 8; shift >= 0 && imageSize < image.length; shift -= 8) {
            image[imageSize] = number >> shift & 255;
            imageSize++;
        }
    }

    private static int checkOf(int[] bytes, int length) {
        int check = 193;
        for (int k = 0; k < length && k < bytes.length; k++) {
            check = (3 * check + bytes[k]) % 251;
        }
        return check;
    }

    private int tapedNight() {
        return tape[0] << 8 | tape[1];
    }

    private int tapedCold() {
        return tape[2] << 16 | tape[3] << 8 | tape[4];
    }

    private boolean isImage(int length) {
        if (!isTold() || length != 6 + 3 * told.doors + told.porters
                || tape[length - 1] != checkOf(tape, length - 1)
                || tapedNight() > LAST_NIGHT || tapedCold() > MOST_COLD) {
            return false;
        }
        int at = 5;
        for (int d = 0; d < told.doors; d++) {
            if (tape[at] > 1 || tape[at + 1] > MOST_TURNED || tape[at + 2] > LAST_PAINT) {
                return false;
            }
            at += 3;
        }
        for (int p = 0; p < told.porters; p++) {
            if (tape[at + p] > MOST_TIRED) {
                return false;
            }
        }
        return true;
    }

    private void takeImage() {
        int[] row = hall.row;
        row[Hall.NIGHT] = tapedNight();
        row[Hall.COLD] = tapedCold();
        row[Hall.OPEN] = 0;
        row[Hall.WALKS] = 0;
        int at = 5;
        for (int d = 0; d < told.doors; d++) {
            row[Hall.OPEN] |= tape[at] << d;
            row[Hall.TURNED + d] = tape[at + 1];
            row[Hall.PAINT + d] = tape[at + 2];
            at += 3;
        }
        for (int p = 0; p < told.porters; p++) {
            row[Hall.TIRED + p] = tape[at + p];
        }
    }

    /** The words of both languages by number: up to ILL those of statements, up to MAX no names. */
    private static final class Words {
        static final int DOORS = 0;
        static final int PORTER = 1;
        static final int PAINT = 2;
        static final int OPEN = 3;
        static final int STIFF = 4;
        static final int WALKS = 5;
        static final int COLD = 6;
        static final int ILL = 7;
        static final int TURNS = 8;
        static final int NUMBER = 9;
        static final int COLOUR = 10;
        static final int TURNED = 11;
        static final int WHO = 12;
        static final int NIGHT = 13;
        static final int OPENED = 14;
        static final int TIRED = 15;
        static final int JAMMED = 16;
        static final int BY = 17;
        static final int NEAR = 18;
        static final int OR = 19;
        static final int AND = 20;
        static final int NOT = 21;
        static final int ALL = 22;
        static final int MIN = 23;
        static final int MAX = 24;
        static final int FIRST = 25;
        static final int LAST = 26;
        static final int OFTEN = 27;
        static final int TOTAL = 28;
        static final int MOST = 29;
        static final int LEAST = 30;
        static final int COUNT = 31;

        // each word as one number, two digits a letter, so that a word is known by one comparison
        private static final long[] SPELLED = {
            4_15_15_18_19L, 16_15_18_20_05_18L, 16_01_09_14_20L, 15_16_05_14L, 19_20_09_06_06L,
            23_01_12_11_19L, 3_15_12_04L, 9_12_12L, 20_21_18_14_19L, 14_21_13_02_05_18L,
            3_15_12_15_21_18L, 20_21_18_14_05_04L, 23_08_15L, 14_09_07_08_20L, 15_16_05_14_05_04L,
            20_09_18_05_04L, 10_01_13_13_05_04L, 2_25L, 14_05_01_18L, 15_18L,
            1_14_04L, 14_15_20L, 1_12_12L, 13_09_14L, 13_01_24L,
            6_09_18_19_20L, 12_01_19_20L, 15_06_20_05_14L, 20_15_20_01_12L, 13_15_19_20L,
            12_05_01_19_20L
        };

        // which words are a part of a sum, by where it stands
        static final int IN_TURNS = 1 << NIGHT | 1 << NUMBER | 1 << COLOUR;
        static final int IN_COLD = IN_TURNS | 1 << OPEN | 1 << TURNED;
        static final int IN_WALKS = 1 << NIGHT | 1 << WHO | 1 << OPENED | 1 << TIRED;
        static final int IN_QUESTION = IN_COLD | 1 << JAMMED | 1 << BY | 1 << NEAR;
    }

    /**
     * Tests and sums, each part behind those that it joins: a word's number, a sign, or -1 - n for
     * the number n.
     */
    private static final class Program {
        // a token gives one step at the most; walks and cold without their texts give one each
        final int[] steps = new int[MOST_BYTES + 2];
        int size = 0;

        void add(int step) {
            if (size < steps.length) {
                steps[size] = step;
                size++;
            }
        }

        boolean hasWord(int word, int from, int to) {
            for (int k = from; k < to && k < size; k++) {
                if (steps[k] == word) {
                    return true;
                }
            }
            return false;
        }

        void copy(Program other) {
            size = other.size;
            System.arraycopy(other.steps, 0, steps, 0, size);
        }
    }

    /** A corridor as its text tells it. */
    private static final class Plan {
        static final int WALKS = MOST_PORTERS;
        static final int COLD = MOST_PORTERS + 1;

        int doors = 0;
        int porters = 0;
        int stiff = 0;
        int ill = 0;
        int open = 0;
        final int[] paint = new int[MOST_DOORS];
        final long[] names = new long[MOST_PORTERS];
        final Program program = new Program();
        // where in the program each porter's test, the test of walks and the sum of cold stand
        final int[] from = new int[MOST_PORTERS + 2];
        final int[] to = new int[MOST_PORTERS + 2];
        // the porters whose orders hang on the night, as bits
        int byNight = 0;
        boolean walksTold = false;
        boolean coldTold = false;

        void clear() {
            doors = 0;
            porters = 0;
            stiff = 0;
            ill = 0;
            open = 0;
            for (int d = 0; d < MOST_DOORS; d++) {
                paint[d] = 0;
            }
            byNight = 0;
            walksTold = false;
            coldTold = false;
            program.size = 0;
            program.add(Words.ALL);
            place(WALKS, 0);
            program.add(Words.OPEN);
            place(COLD, 1);
        }

        /** What stands in the program from a step on is the one of this number. */
        void place(int which, int start) {
            from[which] = start;
            to[which] = program.size;
            if (program.hasWord(Words.NIGHT, start, program.size)) {
                byNight |= 1 << which;
            }
        }

        boolean hasName(long spelled, int letters) {
            long name = fullName(spelled, letters);
            for (int p = 0; p < porters; p++) {
                if (names[p] == name) {
                    return true;
                }
            }
            return false;
        }

        /** Short names end in 0, so that each letter has its own two digits. */
        void addName(long spelled, int letters) {
            if (porters < MOST_PORTERS) {
                names[porters] = fullName(spelled, letters);
                porters++;
            }
        }

        private static long fullName(long spelled, int letters) {
            long name = spelled;
            for (int k = letters; k < 6; k++) {
                name *= 100;
            }
            return name;
        }

        int letterOf(int porter, int k) {
            long rest = names[porter];
            for (int j = k; j < 5; j++) {
                rest /= 100;
            }
            return (int) (rest % 100);
        }

        void copy(Plan other) {
            doors = other.doors;
            porters = other.porters;
            stiff = other.stiff;
            ill = other.ill;
            open = other.open;
            byNight = other.byNight;
            System.arraycopy(other.paint, 0, paint, 0, paint.length);
            System.arraycopy(other.names, 0, names, 0, names.length);
            System.arraycopy(other.from, 0, from, 0, from.length);
            System.arraycopy(other.to, 0, to, 0, to.length);
            program.copy(other.program);
        }
    }

    /** Reads a text token by token: a corridor into its plan, a question into a program. */
    private static final class Reader {
        private static final int WORD = 256;
        private static final int NUMBER = 257;
        private static final int END = 258;
        private static final int GLUED = 259;
        private static final int STOPPED = 260;
        private static final int MOST_OPENED = 6;
        private static final int MOST_LETTERS = 6;
        private static final int MOST_DIGITS = 4;

        private final int[] text;
        private final Plan plan;
        private Program out;
        private int length = 0;
        private int at = 0;
        // the token read last: its kind (a sign's byte, or one of the above), its first byte, how
        // many bytes it has, what it is worth (a number, a word's number), its letters
        private int kind = STOPPED;
        private int start = 0;
        private int size = 0;
        private int value = 0;
        private long spelled = 0;
        private int allowed = 0;
        private int opened = 0;
        int fault = 0;
        int place = NONE;

        Reader(int[] text, Plan plan) {
            this.text = text;
            this.plan = plan;
            this.out = plan.program;
        }

        void begin(int bytes, Program target) {
            length = Math.min(bytes, text.length);
            out = target;
            at = 0;
            kind = STOPPED;
            opened = 0;
            fault = 0;
            place = NONE;
            advance();
        }

        boolean hasMore() {
            return kind != END && kind != STOPPED;
        }

        /** A statement and its semicolon, behind so many others. */
        void statement(int before) {
            int word = word();
            if (before >= MOST_STATEMENTS || isOneTooMany(word)) {
                fail(5, start);
            } else if ((before == 0) != (word == Words.DOORS) || word < 0 || word > Words.ILL) {
                fail(1, start);
            }
            if (fault != 0) {
                return;
            }
            advance();
            int from = out.size;
            switch (word) {
                case Words.PORTER:
                    int porter = plan.porters;
                    name();
                    allowed = Words.IN_TURNS;
                    test();
                    plan.place(porter, from);
                    break;
                case Words.WALKS:
                    plan.walksTold = true;
                    allowed = Words.IN_WALKS;
                    test();
                    plan.place(Plan.WALKS, from);
                    break;
                case Words.COLD:
                    plan.coldTold = true;
                    allowed = Words.IN_COLD;
                    sum();
                    plan.place(Plan.COLD, from);
                    break;
                default:
                    numbers(word);
                    break;
            }
            expect(';');
            advance();
        }

        private boolean isOneTooMany(int word) {
            return word == Words.PORTER && plan.porters >= MOST_PORTERS
                    || word == Words.WALKS && plan.walksTold
                    || word == Words.COLD && plan.coldTold;
        }

        /** What stands behind the word of a statement that is of numbers alone. */
        private void numbers(int word) {
            switch (word) {
                case Words.DOORS:
                    plan.doors = number(2, MOST_DOORS);
                    break;
                case Words.PAINT:
                    int painted = number(0, plan.doors - 1);
                    plan.paint[painted] = number(0, LAST_PAINT);
                    break;
                case Words.OPEN:
                    int placed = start;
                    int bit = 1 << number(0, plan.doors - 1);
                    if ((plan.open & bit) != 0) {
                        fail(2, placed);
                    }
                    plan.open |= bit;
                    break;
                case Words.STIFF:
                    plan.stiff = number(0, 99);
                    break;
                case Words.ILL:
                    plan.ill = number(0, 100);
                    break;
                default:
                    break;
            }
        }

        /** A porter's name and the word behind it. */
        private void name() {
            boolean isOwn = word() >= 0 && word() <= Words.MAX;
            if (kind != WORD || isOwn) {
                fail(1, start);
            } else if (size > MOST_LETTERS) {
                fail(1, start + MOST_LETTERS);
            } else if (plan.hasName(spelled, size)) {
                fail(3, start);
            } else {
                plan.addName(spelled, size);
            }
            advance();
            if (word() != Words.TURNS) {
                fail(1, start);
            }
            advance();
        }

        /** A number from low to high; low, when there is none such. */
        private int number(int low, int high) {
            int number = value;
            if (kind != NUMBER) {
                fail(1, start);
            } else if (size > MOST_DIGITS) {
                fail(1, start + MOST_DIGITS);
            } else if (number < low || number > high) {
                fail(2, start);
            } else {
                advance();
                return number;
            }
            return low;
        }

        /** A question, whole: its first word. */
        int question() {
            int asked = word();
            if (asked < Words.FIRST) {
                fail(1, start);
            }
            advance();
            allowed = Words.IN_QUESTION;
            if (asked <= Words.OFTEN) {
                test();
            } else {
                sum();
            }
            if (kind != END) {
                fail(1, start);
            }
            return asked;
        }

        private void test() {
            int terms = 0;
            boolean more = true;
            while (more && terms < MOST_BYTES) {
                fact();
                for (int k = 0; k < MOST_BYTES && word() == Words.AND; k++) {
                    advance();
                    fact();
                    out.add(Words.AND);
                }
                if (terms > 0) {
                    out.add(Words.OR);
                }
                terms++;
                more = word() == Words.OR;
                if (more) {
                    advance();
                }
            }
        }

        private void fact() {
            if (word() == Words.NOT) {
                if (enters()) {
                    advance();
                    fact();
                    out.add(Words.NOT);
                    opened--;
                }
            } else if (kind == '[') {
                if (enters()) {
                    advance();
                    test();
                    expect(']');
                    advance();
                    opened--;
                }
            } else if (word() == Words.ALL) {
                out.add(Words.ALL);
                advance();
            } else {
                sum();
                int sign = kind;
                if (sign != '<' && sign != '>' && sign != '=') {
                    fail(1, start);
                }
                advance();
                sum();
                out.add(sign);
            }
        }

        private void sum() {
            int joining = NONE;
            boolean more = true;
            for (int terms = 0; more && terms < MOST_BYTES; terms++) {
                part();
                for (int k = 0; k < MOST_BYTES && (kind == '*' || kind == '/'); k++) {
                    int sign = kind;
                    advance();
                    part();
                    out.add(sign);
                }
                if (joining != NONE) {
                    out.add(joining);
                }
                joining = kind;
                more = kind == '+' || kind == '-';
                if (more) {
                    advance();
                }
            }
        }

        private void part() {
            int word = word();
            if (kind == NUMBER) {
                if (size > MOST_DIGITS) {
                    fail(1, start + MOST_DIGITS);
                }
                out.add(-1 - value);
                advance();
            } else if (kind == '(') {
                if (enters()) {
                    advance();
                    sum();
                    expect(')');
                    advance();
                    opened--;
                }
            } else if (word == Words.MIN || word == Words.MAX) {
                advance();
                expect('(');
                if (enters()) {
                    advance();
                    sum();
                    expect(',');
                    advance();
                    sum();
                    expect(')');
                    advance();
                    out.add(word);
                    opened--;
                }
            } else if (!isAllowed(word)) {
                fail(1, start);
            } else if (word == Words.BY || word == Words.NEAR) {
                if (enters()) {
                    advance();
                    part();
                    out.add(word);
                    opened--;
                }
            } else {
                out.add(word);
                advance();
            }
        }

        private boolean isAllowed(int word) {
            return word >= 0 && (allowed >> word & 1) != 0;
        }

        /** Whether one more may be open at once, the token read last: no further down without it. */
        private boolean enters() {
            if (opened >= MOST_OPENED) {
                fail(4, start);
            }
            opened++;
            return fault == 0;
        }

        private void expect(int sign) {
            if (kind != sign) {
                fail(1, start);
            }
        }

        /** The number of the word read last; NONE when it is none of these. */
        private int word() {
            return kind == WORD ? value : NONE;
        }

        /** The first fault stays; behind it no token is read, so all that asks for one ends. */
        private void fail(int what, int where) {
            if (fault == 0) {
                fault = what;
                place = where;
                kind = STOPPED;
            }
        }

        /** The next token; a word or a number right behind another one is GLUED. */
        private void advance() {
            if (fault != 0) {
                return;
            }
            boolean isTight = kind == WORD || kind == NUMBER;
            while (at < length && (text[at] == ' ' || text[at] == 10)) {
                at++;
                isTight = false;
            }
            start = at;
            size = 0;
            value = 0;
            spelled = 0;
            if (at >= length) {
                kind = END;
            } else if (text[at] >= 'a' && text[at] <= 'z') {
                readWord();
                kind = isTight ? GLUED : WORD;
            } else if (text[at] >= '0' && text[at] <= '9') {
                readNumber();
                kind = isTight ? GLUED : NUMBER;
            } else {
                kind = text[at];
                at++;
            }
        }

        private void readWord() {
            for (; at < length && text[at] >= 'a' && text[at] <= 'z'; at++) {
                if (size < MOST_LETTERS) {
                    spelled = spelled * 100 + (text[at] - 'a' + 1);
                }
                size++;
            }
            value = NONE;
            for (int k = 0; k < Words.SPELLED.length; k++) {
                if (size <= MOST_LETTERS && Words.SPELLED[k] == spelled) {
                    value = k;
                }
            }
        }

        private void readNumber() {
            for (; at < length && text[at] >= '0' && text[at] <= '9'; at++) {
                if (size < MOST_DIGITS) {
                    value = value * 10 + (text[at] - '0');
                }
                size++;
            }
        }
    }

    /** What a program comes to, by what is given for its words. */
    private static final class Sums {
        static final int HIGHEST = 1000000;

        final int[] given = new int[Words.COUNT];
        // for by and near: each porter's order (none without one), the open doors, as bits
        final int[] orders = new int[MOST_PORTERS];
        int open = 0;
        // at the most 7 levels stand open at once, each with 5 numbers that wait at the most
        private final int[] stack = new int[50];

        void standAt(Hall hall, int door, int stiff) {
            given[Words.NIGHT] = hall.row[Hall.NIGHT];
            given[Words.NUMBER] = door;
            given[Words.COLOUR] = hall.row[Hall.PAINT + door];
            given[Words.OPEN] = hall.isOpen(door);
            given[Words.TURNED] = hall.row[Hall.TURNED + door];
            given[Words.JAMMED] = hall.isJammed(door, stiff) ? 1 : 0;
        }

        void standWith(Hall hall, int porter) {
            given[Words.NIGHT] = hall.row[Hall.NIGHT];
            given[Words.WHO] = porter;
            given[Words.OPENED] = hall.opened();
            given[Words.TIRED] = hall.row[Hall.TIRED + porter];
        }

        int worth(Program program, int from, int to) {
            int top = 0;
            for (int k = from; k >= 0 && k < to && k < program.size; k++) {
                int step = program.steps[k];
                if (step < Words.BY && top < stack.length) {
                    stack[top] = step < 0 ? -1 - step : given[step];
                    top++;
                } else if (step == Words.ALL && top < stack.length) {
                    stack[top] = 1;
                    top++;
                } else if (isOfOne(step) && top >= 1) {
                    stack[top - 1] = single(step, stack[top - 1]);
                } else if (top >= 2) {
                    top--;
                    stack[top - 1] = joined(step, stack[top - 1], stack[top]);
                }
            }
            return top == 1 ? stack[0] : 0;
        }

        private static boolean isOfOne(int step) {
            return step == Words.NOT || step == Words.BY || step == Words.NEAR;
        }

        private int single(int step, int worth) {
            if (step == Words.NOT) {
                return 1 - worth;
            }
            if (step == Words.BY) {
                boolean isPorter = worth >= 0 && worth < orders.length;
                return isPorter ? orders[worth] >> given[Words.NUMBER] & 1 : 0;
            }
            int door = given[Words.NUMBER] + worth;
            return door >= 0 && door < MOST_DOORS ? open >> door & 1 : 0;
        }

        private static int joined(int step, int first, int second) {
            switch (step) {
                case '+': return Math.min(HIGHEST, Math.max(-HIGHEST, first + second));
                case '-': return Math.min(HIGHEST, Math.max(-HIGHEST, first - second));
                case '*':
                    long product = (long) first * second;
                    return (int) Math.min(HIGHEST, Math.max(-HIGHEST, product));
                case '/': return second == 0 ? 0 : Math.floorDiv(first, second);
                case '<': return first < second ? 1 : 0;
                case '>': return first > second ? 1 : 0;
                case '=': return first == second ? 1 : 0;
                case Words.AND: return first & second;
                case Words.OR: return first | second;
                case Words.MIN: return Math.min(first, second);
                case Words.MAX: return Math.max(first, second);
                default: return 0;
            }
        }
    }

    /** How all stands: one row of numbers, so that it is kept and given back by one copy. */
    private static final class Hall {
        static final int NIGHT = 0;
        static final int COLD = 1;
        static final int OPEN = 2;
        static final int WALKS = 3;
        static final int TURNED = 4;
        static final int PAINT = TURNED + MOST_DOORS;
        static final int TIRED = PAINT + MOST_DOORS;
        static final int LIST = TIRED + MOST_PORTERS;
        static final int MOST_KEPT = 40;
        static final int SIZE = LIST + MOST_KEPT;

        final int[] row = new int[SIZE];

        void begin(Plan plan) {
            for (int k = 0; k < SIZE; k++) {
                row[k] = 0;
            }
            row[OPEN] = plan.open;
            System.arraycopy(plan.paint, 0, row, PAINT, MOST_DOORS);
        }

        void copy(Hall other) {
            System.arraycopy(other.row, 0, row, 0, SIZE);
        }

        int isOpen(int door) {
            return row[OPEN] >> door & 1;
        }

        int opened() {
            return Integer.bitCount(row[OPEN]);
        }

        boolean isJammed(int door, int stiff) {
            return stiff > 0 && row[TURNED + door] >= stiff;
        }

        /** Turns a door that is not jammed: whether it was turned. */
        boolean swing(int door, int stiff) {
            if (isJammed(door, stiff)) {
                return false;
            }
            row[OPEN] ^= 1 << door;
            row[TURNED + door] = Math.min(MOST_TURNED, row[TURNED + door] + 1);
            return true;
        }

        void keepWalk(int porter, int turned) {
            int place = LIST + row[WALKS] % MOST_KEPT;
            row[place] = (row[NIGHT] * MOST_PORTERS + porter) * (MOST_DOORS + 1) + turned;
            row[WALKS]++;
        }

        int keptTold() {
            return Math.min(MOST_KEPT, row[WALKS]);
        }

        int keptAt(int k, int what) {
            int walk = row[LIST + (row[WALKS] - keptTold() + k) % MOST_KEPT];
            int doors = MOST_DOORS + 1;
            switch (what) {
                case 0: return walk / doors / MOST_PORTERS;
                case 1: return walk / doors % MOST_PORTERS;
                case 2: return walk % doors;
                default: return NONE;
            }
        }
    }

    /** The hall as it was ahead of each of the last acts. */
    private static final class Past {
        private static final int MOST_ACTS = 20;

        private final int[] rows = new int[MOST_ACTS * Hall.SIZE];
        private int next = 0;
        int count = 0;

        void forget() {
            count = 0;
        }

        void keep(Hall hall) {
            System.arraycopy(hall.row, 0, rows, next * Hall.SIZE, Hall.SIZE);
            next = (next + 1) % MOST_ACTS;
            count = Math.min(MOST_ACTS, count + 1);
        }

        void giveBack(Hall hall) {
            if (count > 0) {
                next = (next + MOST_ACTS - 1) % MOST_ACTS;
                count--;
                System.arraycopy(rows, next * Hall.SIZE, hall.row, 0, Hall.SIZE);
            }
        }
    }

    /** Who walks when, and what a walk and a night do to a hall. */
    private static final class Rounds {
        private static final int SLOTS = 64;

        private final Plan plan;
        private final Sums sums;
        // orders hang on paint and night alone: they are kept by night until paint may be another
        private final int[] orders = new int[SLOTS * MOST_PORTERS];
        private final int[] known = new int[SLOTS * MOST_PORTERS];

        Rounds(Plan plan, Sums sums) {
            this.plan = plan;
            this.sums = sums;
        }

        void forgetOrders() {
            for (int k = 0; k < known.length; k++) {
                known[k] = 0;
            }
        }

        int orderOf(Hall hall, int porter) {
            boolean isByNight = (plan.byNight >> porter & 1) != 0;
            int key = isByNight ? hall.row[Hall.NIGHT] : 0;
            int slot = key % SLOTS * MOST_PORTERS + porter;
            if (known[slot] == key + 1) {
                return orders[slot];
            }
            int order = 0;
            for (int d = 0; d < plan.doors; d++) {
                sums.standAt(hall, d, plan.stiff);
                if (sums.worth(plan.program, plan.from[porter], plan.to[porter]) != 0) {
                    order |= 1 << d;
                }
            }
            orders[slot] = order;
            known[slot] = key + 1;
            return order;
        }

        /** What a question asks for with by and near. */
        void tellOrders(Hall hall) {
            for (int p = 0; p < MOST_PORTERS; p++) {
                sums.orders[p] = p < plan.porters ? orderOf(hall, p) : 0;
            }
            sums.open = hall.row[Hall.OPEN];
        }

        boolean isWilling(Hall hall, int porter) {
            sums.standWith(hall, porter);
            return sums.worth(plan.program, plan.from[Plan.WALKS], plan.to[Plan.WALKS]) != 0;
        }

        /** How many doors the porter turned. */
        int walk(Hall hall, int porter) {
            int order = orderOf(hall, porter);
            int turned = 0;
            for (int d = 0; d < plan.doors; d++) {
                if ((order >> d & 1) != 0 && hall.swing(d, plan.stiff)) {
                    turned++;
                }
            }
            return turned;
        }

        /** A night in which one does not walk (NONE: each may): how many walked. */
        int pass(Hall hall, int away) {
            int walks = 0;
            for (int p = 0; p < plan.porters; p++) {
                int tired = 0;
                if (p != away && isWilling(hall, p)) {
                    hall.keepWalk(p, walk(hall, p));
                    tired = Math.min(MOST_TIRED, hall.row[Hall.TIRED + p] + 1);
                    walks++;
                }
                hall.row[Hall.TIRED + p] = tired;
            }
            comeCold(hall);
            hall.row[Hall.NIGHT] = Math.min(LAST_NIGHT, hall.row[Hall.NIGHT] + 1);
            return walks;
        }

        private void comeCold(Hall hall) {
            for (int d = 0; d < plan.doors; d++) {
                sums.standAt(hall, d, plan.stiff);
                int worth = sums.worth(plan.program, plan.from[Plan.COLD], plan.to[Plan.COLD]);
                int comes = Math.max(0, Math.min(99, worth));
                hall.row[Hall.COLD] = Math.min(MOST_COLD, hall.row[Hall.COLD] + comes);
            }
        }
    }

    /** The nights ahead: walked once, as far as somebody asks, and known until all is another. */
    private static final class Ahead {
        private final Hall now;
        private final Hall then = new Hall();
        private final Rounds rounds;
        final int[] open = new int[MOST_AHEAD + 1];
        final int[] cold = new int[MOST_AHEAD + 1];
        private int reached = NONE;

        Ahead(Hall now, Rounds rounds) {
            this.now = now;
            this.rounds = rounds;
        }

        void forget() {
            reached = NONE;
        }

        /** Whether so many nights can be ahead; what is behind them is known then. */
        boolean reaches(int n) {
            if (n < 0 || n > MOST_AHEAD || now.row[Hall.NIGHT] + n > LAST_NIGHT) {
                return false;
            }
            while (reached < n) {
                if (reached == NONE) {
                    then.copy(now);
                } else {
                    rounds.pass(then, NONE);
                }
                reached++;
                open[reached] = then.row[Hall.OPEN];
                cold[reached] = then.row[Hall.COLD];
            }
            return true;
        }
    }

    /** What each set of porters changes now, and which sets fit what is seen. */
    private static final class Sets {
        private final Plan plan;
        private final Hall hall;
        private final Rounds rounds;
        private boolean reckoned = false;
        int count = 0;
        final int[] changed = new int[MOST_SETS];
        int fitCount = 0;
        final int[] fitting = new int[MOST_SETS];
        int seenRows = 0;
        private int seenOpen = 0;
        private int seenShut = 0;

        Sets(Plan plan, Hall hall, Rounds rounds) {
            this.plan = plan;
            this.hall = hall;
            this.rounds = rounds;
        }

        void forget() {
            reckoned = false;
        }

        void forgetSeen() {
            seenRows = 0;
            seenOpen = 0;
            seenShut = 0;
            reckoned = false;
        }

        void seeDoor(int door, int isOpen) {
            if (isOpen == 1) {
                seenOpen |= 1 << door;
            } else {
                seenShut |= 1 << door;
            }
            seenRows++;
        }

        void reckon() {
            if (reckoned) {
                return;
            }
            count = 1;
            changed[0] = 0;
            for (int p = 0; p < plan.porters && 2 * count <= MOST_SETS; p++) {
                int order = rounds.orderOf(hall, p);
                for (int set = 0; set < count; set++) {
                    changed[count + set] = changed[set] ^ order;
                }
                count *= 2;
            }
            reckonFits();
            reckoned = true;
        }

        private void reckonFits() {
            fitCount = 0;
            for (int set = 0; set < count; set++) {
                int open = doorsBehind(set);
                if ((open & seenOpen) == seenOpen && (open & seenShut) == 0) {
                    fitting[fitCount] = set;
                    fitCount++;
                }
            }
        }

        private int doorsBehind(int set) {
            return hall.row[Hall.OPEN] ^ changed[set];
        }

        int openBehind(int set) {
            return Integer.bitCount(doorsBehind(set));
        }

        /** The fewest porters who change just the wanted doors of those asked of. */
        int fewest(int asked, int wanted) {
            reckon();
            int best = NONE;
            for (int set = 0; set < count; set++) {
                if ((changed[set] & asked) == wanted && (best == NONE || isFewer(set, best))) {
                    best = set;
                }
            }
            return best;
        }

        int changingNone() {
            reckon();
            int alike = 0;
            for (int set = 0; set < count; set++) {
                alike += changed[set] == 0 ? 1 : 0;
            }
            return alike;
        }

        int widestSet() {
            reckon();
            int best = 0;
            int most = openBehind(0);
            for (int set = 1; set < count; set++) {
                int open = openBehind(set);
                if (open > most || open == most && isFewer(set, best)) {
                    best = set;
                    most = open;
                }
            }
            return best;
        }

        private static boolean isFewer(int set, int other) {
            return Integer.bitCount(set) < Integer.bitCount(other);
        }

        int fitsWith(int porter) {
            int with = 0;
            for (int k = 0; k < fitCount; k++) {
                with += fitting[k] >> porter & 1;
            }
            return with;
        }

        /** How many fits are left at the most, when it is seen whether this door is open. */
        int mostLeft(int door) {
            int open = 0;
            for (int k = 0; k < fitCount; k++) {
                open += doorsBehind(fitting[k]) >> door & 1;
            }
            return Math.max(open, fitCount - open);
        }

        int tellingDoor() {
            int best = 0;
            int least = mostLeft(0);
            for (int d = 1; d < plan.doors; d++) {
                int left = mostLeft(d);
                if (left < least) {
                    best = d;
                    least = left;
                }
            }
            return best;
        }
    }
}
