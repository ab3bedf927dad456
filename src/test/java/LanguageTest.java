import java.lang.reflect.Field;
import java.lang.reflect.Method;
import java.lang.reflect.Modifier;
import java.nio.file.Files;
import java.nio.file.Path;
import java.util.ArrayList;
import java.util.Arrays;
import java.util.List;
import java.util.Set;
import java.util.TreeSet;
import java.util.regex.Matcher;
import java.util.regex.Pattern;

/** What of LANGUAGE.md can be seen: the face, the classes inside, words that are not for use. */
public final class LanguageTest {
    private static final Check CHECK = new Check("LanguageTest");
    private static final String FACE = "alike(0) alone(1) ask(0) back(0) chance(1) changes(1) cold(1) "
            + "corridor(0) door(2) end(1) fault(1) feed(5) fits(1) has(1) image(0) kept(2) later(1) "
            + "letter(2) nights(1) octet(1) odds(1) oil(1) on(0) order(1) paint(2) porter(2) rest(2) "
            + "row(0) see(0) seed(1) send(1) sends(2) status(1) tells(1) turn(1) undo(0) walked(1) "
            + "widest(1)";

    public static void main(String[] args) throws Exception {
        face();
        classes();
        source(Files.readString(Path.of(args.length > 0 ? args[0] : "src/main/java/PorterDoors.java")));
        CHECK.finish();
    }

    private static List<Class<?>> all() {
        List<Class<?>> all = new ArrayList<>(Arrays.asList(PorterDoors.class.getDeclaredClasses()));
        all.add(PorterDoors.class);
        return all;
    }

    private static void face() {
        Set<String> methods = new TreeSet<>();
        for (Method method : PorterDoors.class.getDeclaredMethods()) {
            if (!Modifier.isPrivate(method.getModifiers())) {
                methods.add(method.getName() + "(" + method.getParameterCount() + ")");
            }
        }
        CHECK.due("rule 1, methods " + methods, String.join(" ", methods).equals(FACE), true);
        Set<String> fields = new TreeSet<>();
        for (Field field : PorterDoors.class.getDeclaredFields()) {
            if (!Modifier.isPrivate(field.getModifiers())) {
                fields.add(field.getName());
            }
        }
        CHECK.due("rule 1, fields " + fields, fields.equals(Set.of("NONE", "NOTHING")), true);
        CHECK.due("rule 1, constructors", PorterDoors.class.getDeclaredConstructors().length, 1);
        CHECK.due("rule 1, final", Modifier.isFinal(PorterDoors.class.getModifiers()), true);
    }

    private static void classes() {
        CHECK.due("rule 11, classes", all().size() <= 12, true);
        Set<String> face = Set.of(FACE.replaceAll("\\(\\d\\)", "").split(" "));
        for (Class<?> one : all()) {
            String name = one.getSimpleName();
            boolean inside = one != PorterDoors.class;
            CHECK.due("rule 2, static, " + name, !inside || Modifier.isStatic(one.getModifiers()), true);
            CHECK.due("rule 2, no classes inside, " + name, !inside || one.getDeclaredClasses().length == 0, true);
            int fields = 0;
            for (Field field : one.getDeclaredFields()) {
                int modifiers = field.getModifiers();
                boolean isStatic = Modifier.isStatic(modifiers);
                fields += isStatic ? 0 : 1;
                CHECK.due("rule 5, " + name + "." + field.getName(), !isStatic || Modifier.isFinal(modifiers), true);
            }
            CHECK.due("rule 11, fields of " + name, fields <= 20, true);
            for (Method method : one.getDeclaredMethods()) {
                boolean free = !inside && Modifier.isPublic(method.getModifiers());
                CHECK.due("rule 1, name of " + name + "." + method.getName(),
                        free || !face.contains(method.getName()), true);
                CHECK.due("rule 11, parameters of " + method.getName(), method.getParameterCount() <= 7, true);
            }
        }
    }

    private static void source(String source) {
        String code = source.replaceAll("(?s)/\\*.*?\\*/", "").replaceAll("//[^\n]*", "");
        for (String word : ("throw try catch synchronized assert instanceof import package protected enum "
                + "record volatile double float equals hashCode toString").split(" ")) {
            CHECK.due("no " + word, Pattern.compile("\\b" + word + "\\b").matcher(code).find(), false);
        }
        for (String sign : new String[] {"->", "::", "Exact(", "@", "\"", "var "}) {
            CHECK.due("no " + sign, code.contains(sign), false);
        }
        Matcher made = Pattern.compile("\n *(.*\\bnew\\b.*)").matcher(code);
        while (made.find()) {
            CHECK.due("rule 12, made in a field: " + made.group(1),
                    made.group(1).matches("(private )?(static )?final .* = new .*;"), true);
        }
        long ascii = source.chars().filter(c -> c > 126).count();
        CHECK.due("signs beyond 126", ascii, 0);
        lengths(code.split("\n"));
    }

    /** A method's lines are those from its head to the brace at its head's depth. */
    private static void lengths(String[] lines) {
        Pattern head = Pattern.compile("^( {4}| {8})\\S.*\\) \\{$");
        for (int k = 0; k < lines.length; k++) {
            Matcher matcher = head.matcher(lines[k]);
            if (matcher.find()) {
                String end = matcher.group(1) + "}";
                int to = k;
                while (to < lines.length && !lines[to].equals(end)) {
                    to++;
                }
                CHECK.due("rule 11, lines of " + lines[k].trim(), to - k + 1 <= 60, true);
            }
        }
    }
}
