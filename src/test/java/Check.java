import java.nio.charset.StandardCharsets;

/** What the tests share: answers held against those that are due, texts put on the tape. */
final class Check {
    private final String name;
    private int calls = 0;
    private int wrong = 0;

    Check(String name) {
        this.name = name;
    }

    void due(String call, long got, long want) {
        calls++;
        if (got != want) {
            wrong++;
            System.out.println(call + " answered " + got + ", due is " + want);
        }
    }

    void due(String call, boolean got, boolean want) {
        due(call, got ? 1 : 0, want ? 1 : 0);
    }

    /** Puts these bytes alone on the tape. */
    static void tape(PorterDoors x, byte[] bytes) {
        x.end(0);
        for (int at = 0; at < bytes.length; at += 20) {
            int[] numbers = new int[5];
            for (int k = 0; k < 20; k++) {
                int b = at + k < bytes.length ? bytes[at + k] & 255 : 32;
                numbers[k / 4] |= b << 24 - 8 * (k % 4);
            }
            x.feed(numbers[0], numbers[1], numbers[2], numbers[3], numbers[4]);
        }
        x.end(bytes.length);
    }

    static void tape(PorterDoors x, String text) {
        tape(x, text.getBytes(StandardCharsets.ISO_8859_1));
    }

    static void tape(PorterDoors x, int... bytes) {
        byte[] all = new byte[bytes.length];
        for (int k = 0; k < bytes.length; k++) {
            all[k] = (byte) bytes[k];
        }
        tape(x, all);
    }

    static int corridor(PorterDoors x, String text) {
        tape(x, text);
        return x.corridor();
    }

    static PorterDoors told(String text) {
        PorterDoors x = new PorterDoors();
        if (corridor(x, text) < 0) {
            throw new IllegalStateException("fault " + x.fault(0) + " at " + x.fault(1) + ": " + text);
        }
        return x;
    }

    static long ask(PorterDoors x, String text) {
        tape(x, text);
        return x.ask();
    }

    /** A text is no corridor: its fault and the place are due. */
    void fault(String text, int what, int where) {
        PorterDoors x = new PorterDoors();
        due("corridor " + text, corridor(x, text), -1);
        due("fault of " + text, x.fault(0), what);
        due("its place of " + text, x.fault(1), where);
        due("refused, " + text, x.status(1), 1);
    }

    void finish() {
        System.out.println(name + ": " + calls + " answers, " + wrong + " not as due");
        if (wrong != 0) {
            System.exit(1);
        }
    }
}
