import java.lang.reflect.Method;
import java.util.ArrayList;
import java.util.Arrays;
import java.util.Comparator;
import java.util.List;
import java.util.Random;

/**
 * Rows of calls, the same ones each time, on the class and on the model: all answers alike. A row
 * ends with the 512th call: what later ones answer is free.
 */
public final class ModelTest {
    private static final int MOST_CALLS = 512;
    private static final String[] BYTES = {"turned", "night", "0", "7", "12345", "(", ")", "[", "]",
        ";", ",", "+", "*", "/", "<", "=", "not ", " or ", " and ", "all", "min", "near ", "by ",
        "A", "\t", " ", "\n", "porter", "walks all;", "cold 1;", "doors 3;", "\u00e9", "9999"};

    private final Random random;
    private final PorterDoors x = new PorterDoors();
    private final Model model = new Model();
    private final List<String> calls = new ArrayList<>();
    private int made = 0;
    private int doors = 0;

    private ModelTest(long seed) {
        random = new Random(seed);
    }

    private int below(int n) {
        return random.nextInt(n);
    }

    private boolean oneOf(int n) {
        return random.nextInt(n) == 0;
    }

    private String any(String... words) {
        return words[below(words.length)];
    }

    private String blank() {
        return any(" ", " ", "  ", "\n", " \n ");
    }

    private String loose() {
        return oneOf(8) ? blank() : "";
    }

    private String part(int depth, String... words) {
        int which = depth <= 0 ? below(7) : below(12);
        if (which < 3) {
            return "" + (oneOf(6) ? below(10000) : below(12));
        }
        if (which < 7 || which == 9 && words.length < 8) {
            String word = words[below(words.length)];
            return word.equals("by") || word.equals("near")
                    ? word + blank() + part(Math.max(0, depth - 1), words) : word;
        }
        if (which < 9) {
            return "(" + loose() + sum(depth - 1, words) + loose() + ")";
        }
        return any("min", "max") + loose() + "(" + sum(depth - 1, words) + "," + loose()
                + sum(depth - 1, words) + ")";
    }

    private String sum(int depth, String... words) {
        String text = part(depth, words);
        for (int k = below(3); k > 0; k--) {
            text += loose() + any("+", "-", "*", "/") + loose() + part(depth, words);
        }
        return text;
    }

    private String fact(int depth, String... words) {
        int which = depth <= 0 ? below(8) : below(11);
        if (which == 0) {
            return "all";
        }
        if (which < 8) {
            return sum(depth - 1, words) + loose() + any("<", ">", "=") + loose()
                    + sum(depth - 1, words);
        }
        if (which == 8) {
            String nots = "";
            for (int k = oneOf(6) ? below(7) : 0; k >= 0; k--) {
                nots += "not" + blank();
            }
            return nots + fact(depth - 1, words);
        }
        return "[" + test(depth - 1, words) + loose() + "]";
    }

    private String test(int depth, String... words) {
        String text = fact(depth, words);
        for (int k = below(3); k > 0; k--) {
            text += blank() + any("or", "and") + blank() + fact(depth, words);
        }
        return text;
    }

    private static final String[] TURNS = {"night", "number", "number", "colour"};
    private static final String[] COLD = {"night", "number", "colour", "open", "open", "turned"};
    private static final String[] WALKS = {"night", "who", "opened", "tired"};
    private static final String[] ASK = {"night", "number", "colour", "open", "turned", "jammed",
        "by", "near"};

    private String statement(int k) {
        return switch (below(11)) {
            case 0, 1, 2, 3 -> "porter " + (oneOf(4) ? any("by", "p", "p", "pa", "abcdefg", "night", "first")
                    : "p" + (char) ('a' + k % 26) + any("", "q", "xyz")) + " turns " + test(2, TURNS);
            case 4, 5 -> "paint " + below(doors) + " " + below(10);
            case 6, 7 -> "open " + below(doors);
            case 8 -> "stiff " + (oneOf(3) ? below(100) : below(8));
            case 9 -> oneOf(2) ? "walks " + test(2, WALKS) : "cold " + sum(2, COLD);
            default -> "ill " + below(101);
        };
    }

    private String corridor() {
        doors = 2 + below(oneOf(4) ? 23 : 8);
        StringBuilder text = new StringBuilder(loose() + "doors " + doors + loose() + ";");
        int statements = oneOf(30) ? 55 + below(8) : below(16);
        for (int k = 0; k < statements && text.length() < 1400; k++) {
            String next = statements > 50 ? "ill " + k : statement(k);
            text.append(loose()).append(next).append(loose()).append(";").append(loose());
        }
        return oneOf(4) ? spoilt(text.toString()) : text.toString();
    }

    private String question() {
        String text = oneOf(2) ? any("first", "last", "often") + blank() + test(3, ASK)
                : any("total", "most", "least") + blank() + sum(3, ASK);
        return oneOf(5) ? spoilt(text) : text;
    }

    private String spoilt(String text) {
        int at = below(text.length() + 1);
        int to = Math.min(text.length(), at + below(3));
        return oneOf(8) ? text.substring(0, at)
                : text.substring(0, at) + BYTES[below(BYTES.length)] + text.substring(to);
    }

    private void tape(String text) {
        call("end", 0);
        for (int at = 0; at < text.length() && at < 1600; at += 20) {
            int[] numbers = new int[5];
            for (int k = 0; k < 20; k++) {
                int b = at + k < text.length() ? text.charAt(at + k) & 255 : 32;
                numbers[k / 4] |= b << 24 - 8 * (k % 4);
            }
            call("feed", numbers[0], numbers[1], numbers[2], numbers[3], numbers[4]);
        }
        call("end", Math.min(1600, text.length()));
        calls.add("-- tape: " + text);
    }

    private void call(String name, int... numbers) {
        if (made == MOST_CALLS) {
            return;
        }
        made++;
        Object[] arguments = Arrays.stream(numbers).boxed().toArray();
        try {
            Class<?>[] types = new Class<?>[arguments.length];
            Arrays.fill(types, int.class);
            Object got = PorterDoors.class.getMethod(name, types).invoke(x, arguments);
            Object due = Model.class.getMethod(name, types).invoke(model, arguments);
            calls.add(name + Arrays.toString(arguments) + " -> " + due);
            if (!got.equals(due)) {
                int from = Math.max(0, calls.size() - 60);
                calls.subList(from, calls.size()).forEach(System.out::println);
                throw new AssertionError(name + Arrays.toString(arguments) + " answered " + got
                        + ", due is " + due);
            }
        } catch (ReflectiveOperationException e) {
            throw new AssertionError(name + Arrays.toString(arguments), e);
        }
    }

    private int number() {
        return switch (below(12)) {
            case 0 -> -1;
            case 1 -> random.nextInt();
            case 2 -> below(1100);
            case 3 -> any("", "x").isEmpty() ? Integer.MAX_VALUE : Integer.MIN_VALUE;
            case 4 -> below(101);
            default -> below(12);
        };
    }

    private void anyCall(List<Method> face) {
        switch (below(14)) {
            case 0 -> {
                tape(question());
                call("ask");
                call("fault", 0);
                call("fault", 1);
            }
            case 1 -> {
                String rows = "";
                for (int k = oneOf(20) ? 26 : 1 + below(3); k > 0; k--) {
                    rows += "" + (char) (below(doors + (oneOf(10) ? 2 : 0)))
                            + (char) (below(oneOf(10) ? 3 : 2));
                }
                tape(oneOf(9) ? rows + "\u0001" : rows);
                call("see");
                call("fits", -1);
            }
            case 2 -> imageBack();
            case 3 -> call("turn", below(doors));
            case 4 -> call(any("nights", "chance"), 1 + below(oneOf(5) ? 100 : 9));
            case 5 -> call("send", below(10));
            case 6 -> call("sends", below(1 << doors), oneOf(2) ? 0 : below(1 << doors));
            case 7 -> {
                int asked = below(1 << doors);
                call("sends", asked, asked & below(1 << doors));
            }
            default -> {
                Method method = face.get(below(face.size()));
                int[] arguments = new int[method.getParameterCount()];
                Arrays.setAll(arguments, k -> number());
                if (!method.getName().equals("corridor")) {
                    call(method.getName(), arguments);
                }
            }
        }
    }

    private void imageBack() {
        call("image");
        String bytes = "";
        for (int k = 0; model.octet(k) >= 0; k++) {
            call("octet", k);
            bytes += (char) model.octet(k);
        }
        if (oneOf(2) && !bytes.isEmpty()) {
            char[] other = bytes.toCharArray();
            for (int k = 0; k < 1 + below(4); k++) {
                other[below(oneOf(2) ? 5 : other.length)] = (char) below(oneOf(2) ? 4 : 120);
            }
            int check = 193;
            for (int k = 0; k < other.length - 1; k++) {
                check = (3 * check + other[k]) % 251;
            }
            other[other.length - 1] = (char) check;
            bytes = new String(other);
        }
        tape(oneOf(9) ? spoilt(bytes) : bytes);
        call("on");
    }

    private void all() {
        for (int k = 0; k < 11; k++) {
            call("has", k);
            call("order", k);
            call("porter", k, 0);
            call("porter", k, 2);
            call("walked", k);
            call("letter", k, below(7));
        }
        for (int d = -1; d <= doors; d++) {
            for (int what = 0; what <= 5; what++) {
                call("door", d, what);
            }
            call("odds", d);
            call("alone", d);
        }
        for (int n = 0; n < 62; n += 1 + below(9)) {
            call("later", n);
            call("cold", n);
            call("rest", n, n & 1);
        }
        for (int k = 0; k <= 40; k += 1 + below(7)) {
            call("kept", k, below(4));
        }
        for (String name : new String[] {"back", "row", "alike"}) {
            call(name);
        }
        for (int k = 0; k < 7; k++) {
            call("tells", k);
            call("widest", k);
            call("status", k);
            call("fault", k);
        }
    }

    private void run(int rounds, List<Method> face) {
        doors = 2;
        if (oneOf(8)) {
            all();
        }
        while (made < MOST_CALLS) {
            tape(corridor());
            call("corridor");
            call("fault", 0);
            call("fault", 1);
            if (model.fault(0) != 0) {
                doors = Math.max(2, model.has(0));
            }
            for (int k = 0; k < rounds; k++) {
                anyCall(face);
            }
            if (oneOf(3)) {
                all();
            }
        }
    }

    public static void main(String[] args) {
        List<Method> face = new ArrayList<>();
        for (Method method : PorterDoors.class.getDeclaredMethods()) {
            if (java.lang.reflect.Modifier.isPublic(method.getModifiers())) {
                face.add(method);
            }
        }
        face.sort(Comparator.comparing(Method::getName));
        if (face.size() != 38) {
            throw new AssertionError("the face has " + face.size() + " methods");
        }
        int runs = args.length > 0 ? Integer.parseInt(args[0]) : 600;
        long seed = args.length > 1 ? Long.parseLong(args[1]) : 1;
        long calls = 0;
        for (int k = 0; k < runs; k++) {
            ModelTest test = new ModelTest(seed * 1000003 + k);
            test.run(5 + k % 40, face);
            calls += test.made;
        }
        System.out.println("ModelTest: " + calls + " answers alike");
    }
}
