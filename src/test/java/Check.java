import java.nio.charset.StandardCharsets;
import java.util.List;
import java.util.function.Supplier;
import java.util.function.ToLongFunction;

/** What the tests share: answers held against those that are due, texts put on the tape. */
final class Check {
    private final String name;
    private int calls = 0;
    private int wrong = 0;

    Check(String name) {
        this.name = name;
    }

    void due(String call, long got, long want) {
        calls++;
        if (got != want) {
            wrong++;
            System.out.println(call + " answered " + got + ", due is " + want);
        }
    }

    void due(String call, boolean got, boolean want) {
        due(call, got ? 1 : 0, want ? 1 : 0);
    }

    /** Puts these bytes alone on the tape. */
    static void tape(PorterDoors x, byte[] bytes) {
        x.end(0);
        for (int at = 0; at < bytes.length; at += 20) {
            int[] numbers = new int[5];
            for (int k = 0; k < 20; k++) {
                int b = at + k < bytes.length ? bytes[at + k] & 255 : 32;
                numbers[k / 4] |= b << 24 - 8 * (k % 4);
            }
            x.feed(numbers[0], numbers[1], numbers[2], numbers[3], numbers[4]);
        }
        x.end(bytes.length);
    }

    static void tape(PorterDoors x, String text) {
        tape(x, text.getBytes(StandardCharsets.ISO_8859_1));
    }

    static void tape(PorterDoors x, int... bytes) {
        byte[] all = new byte[bytes.length];
        for (int k = 0; k < bytes.length; k++) {
            all[k] = (byte) bytes[k];
        }
        tape(x, all);
    }

    static int corridor(PorterDoors x, String text) {
        tape(x, text);
        return x.corridor();
    }

    static PorterDoors told(String text) {
        PorterDoors x = new PorterDoors();
        if (corridor(x, text) < 0) {
            throw new IllegalStateException("fault " + x.fault(0) + " at " + x.fault(1) + ": " + text);
        }
        return x;
    }

    static boolean see(PorterDoors x, int... bytes) {
        tape(x, bytes);
        return x.see() >= 0;
    }

    /** The bytes with their check behind them. */
    static int[] withCheck(int... bytes) {
        int[] all = java.util.Arrays.copyOf(bytes, bytes.length + 1);
        int check = 193;
        for (int b : bytes) {
            check = (3 * check + b) % 251;
        }
        all[bytes.length] = check;
        return all;
    }

    /** The image of all as it stands, with other bytes at some places: place, byte, place, byte. */
    static int[] imageWith(PorterDoors x, int... changes) {
        int[] bytes = new int[x.image() - 1];
        for (int k = 0; k < bytes.length; k++) {
            bytes[k] = x.octet(k);
        }
        for (int k = 0; k + 1 < changes.length; k += 2) {
            bytes[changes[k]] = changes[k + 1];
        }
        return withCheck(bytes);
    }

    /** All becomes as an image with other bytes at some places tells it. */
    static boolean become(PorterDoors x, int... changes) {
        tape(x, imageWith(x, changes));
        return x.on();
    }

    /** A corridor in this night; for the rest all is as at first. */
    static PorterDoors atNight(String text, int night) {
        PorterDoors x = told(text);
        if (!become(x, 0, night / 256, 1, night % 256)) {
            throw new IllegalStateException("no night " + night + ": " + text);
        }
        return x;
    }

    static long ask(PorterDoors x, String text) {
        tape(x, text);
        return x.ask();
    }

    /** So many porters, a, b, c .., each of whom turns by this test; # in it is his number. */
    static String porters(int doors, int many, String test) {
        StringBuilder text = new StringBuilder("doors " + doors + ";");
        for (int k = 0; k < many; k++) {
            text.append("porter ").append((char) ('a' + k)).append(" turns ")
                    .append(test.replace("#", "" + k)).append(";");
        }
        return text.toString();
    }

    /** A text is no corridor: its fault and the place are due. */
    void fault(String text, int what, int where) {
        PorterDoors x = new PorterDoors();
        due("corridor " + text, corridor(x, text), -1);
        due("fault of " + text, x.fault(0), what);
        due("its place of " + text, x.fault(1), where);
        due("refused, " + text, x.status(1), 1);
    }

    /** A text is no corridor: its fault is due, where the sign | stands (it is no part of it). */
    void marked(String text, int what) {
        fault(text.replace("|", ""), what, text.indexOf('|'));
    }

    /** A text is a corridor of so many statements. */
    PorterDoors taken(String text, int statements) {
        PorterDoors x = new PorterDoors();
        due("corridor " + text, corridor(x, text), statements);
        due("fault of " + text, x.fault(0), 0);
        due("no place of " + text, x.fault(1), -1);
        due("not refused, " + text, x.status(1), 0);
        return x;
    }

    /**
     * A call gives the answer that is due; this count of status() rises by one (-1: none does), and
     * whatever else can be asked of the object, now and behind some acts, is as it is without it.
     */
    void stays(String name, Supplier<PorterDoors> made, ToLongFunction<PorterDoors> call, long answer,
            int kind) {
        PorterDoors x = made.get();
        PorterDoors twin = made.get();
        due(name, call.applyAsLong(x), answer);
        for (int k = 0; k <= 5; k++) {
            due(name + ", status " + k, x.status(k), twin.status(k) + (k == kind ? 1 : 0));
        }
        alike(name, View.of(x), View.of(twin));
        due(name + ", the tape", x.feed(0, 0, 0, 0, 0), twin.feed(0, 0, 0, 0, 0));
        due(name + ", undone", x.undo(), twin.undo());
        due(name + ", nights by the seed", x.chance(3), twin.chance(3));
        alike(name + ", and then", View.of(x), View.of(twin));
    }

    private void alike(String name, List<String> got, List<String> due) {
        due(name + ": how much there is to see", got.size(), due.size());
        for (int k = 0; k < Math.min(got.size(), due.size()); k++) {
            due(name + ": " + got.get(k) + ", without it " + due.get(k),
                    got.get(k).equals(due.get(k)), true);
        }
    }

    void finish() {
        System.out.println(name + ": " + calls + " answers, " + wrong + " not as due");
        if (wrong != 0) {
            System.exit(1);
        }
    }
}
