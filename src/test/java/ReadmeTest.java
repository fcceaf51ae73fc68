import java.lang.reflect.Field;
import java.lang.reflect.Method;
import java.lang.reflect.Modifier;
import java.nio.file.Files;
import java.nio.file.Path;
import java.util.HashMap;
import java.util.Map;
import java.util.regex.Matcher;
import java.util.regex.Pattern;

/** What README.md tells of the class: its example, its tables of calls and its table of constants. */
public final class ReadmeTest {
    private static final Pattern EXAMPLE = Pattern.compile("int (\\w+) = desk\\.(\\w+)\\(([^)]*)\\); *// (-?\\w+).*");
    private static final Pattern CALL = Pattern.compile("\\| `(\\w+)\\(([^)]*)\\)` \\|.*\\|.*\\|.*\\|");
    private static final Pattern CONSTANT = Pattern.compile("\\| `(\\w+)` \\| (-\\d+) \\|.*\\|");

    public static void main(String[] args) throws Exception {
        String[] lines = Files.readString(Path.of("README.md")).split("\n");
        example(lines);
        calls(lines);
        constants(lines);
        Script.end();
    }

    private static void example(String[] lines) throws Exception {
        BountyDesk desk = new BountyDesk();
        Map<String, Integer> known = new HashMap<>();
        int taken = 0;
        for (String line : lines) {
            Matcher found = EXAMPLE.matcher(line);
            if (found.matches()) {
                int answer = Calls.answer(desk, found.group(2), numbers(found.group(3), known));
                Script.same(line, "" + answer, "" + number(found.group(4), known));
                known.put(found.group(1), answer);
                taken++;
            } else {
                Script.same("understood: " + line, "" + line.startsWith("int "), "false");
            }
        }
        Script.same("there is an example", "" + (taken > 0), "true");
    }

    private static void calls(String[] lines) {
        Map<String, Integer> told = new HashMap<>();
        for (String line : lines) {
            Matcher found = CALL.matcher(line);
            if (found.matches()) {
                told.put(found.group(1), found.group(2).isEmpty() ? 0 : found.group(2).split(",").length);
            }
        }
        for (Method method : BountyDesk.class.getDeclaredMethods()) {
            if (Modifier.isPublic(method.getModifiers())) {
                Script.same("arguments of " + method.getName(),
                        "" + told.remove(method.getName()), "" + method.getParameterCount());
            }
        }
        Script.same("calls that there are not", told.toString(), "{}");
    }

    private static void constants(String[] lines) throws Exception {
        Map<String, Integer> told = new HashMap<>();
        for (String line : lines) {
            Matcher found = CONSTANT.matcher(line);
            if (found.matches()) {
                told.put(found.group(1), Integer.parseInt(found.group(2)));
            }
        }
        for (Field field : BountyDesk.class.getDeclaredFields()) {
            if (Modifier.isPublic(field.getModifiers())) {
                Script.same(field.getName(), "" + told.remove(field.getName()), "" + field.getInt(null));
            }
        }
        Script.same("constants that there are not", told.toString(), "{}");
    }

    private static int[] numbers(String text, Map<String, Integer> known) throws Exception {
        String[] words = text.isEmpty() ? new String[0] : text.split(",");
        int[] numbers = new int[words.length];
        for (int i = 0; i < words.length; i++) {
            numbers[i] = number(words[i].trim(), known);
        }
        return numbers;
    }

    /** A number, or the name of an answer that came before, or of a constant. */
    private static int number(String word, Map<String, Integer> known) throws Exception {
        if (word.matches("-?\\d+")) {
            return Integer.parseInt(word);
        }
        Integer earlier = known.get(word);
        return earlier != null ? earlier : BountyDesk.class.getField(word).getInt(null);
    }
}
