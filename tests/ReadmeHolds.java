import java.lang.reflect.Method;
import java.lang.reflect.Modifier;
import java.nio.file.Files;
import java.nio.file.Path;
import java.util.regex.Matcher;
import java.util.regex.Pattern;

/** README.md names each call with as many arguments as it has, each constant with its number, and its example holds. */
public final class ReadmeHolds extends Bounds {
    private static void calls(String text) {
        says(1, "The public face: each call stands in README.md");
        for (Method m : OneRoof.class.getDeclaredMethods()) {
            if (!Modifier.isPublic(m.getModifiers())) continue;
            Matcher named = Pattern.compile("`" + m.getName() + "\\(([^)]*)\\)`").matcher(text);
            int count = !named.find() ? -1 : named.group(1).isEmpty() ? 0 : named.group(1).split(",").length;
            due(count, m.getParameterCount());
        }
    }

    private static void constants(String text) {
        says(1, "BAD = -1, NOT = -2, FULL = -3, STATE = -5, VOID = -2000000000");
        String[] names = {"BAD", "NOT", "FULL", "STATE", "VOID"};
        int[] numbers = {OneRoof.BAD, OneRoof.NOT, OneRoof.FULL, OneRoof.STATE, OneRoof.VOID};
        for (int i = 0; i < names.length; i++) due(text.contains("| " + numbers[i] + " | `" + names[i] + "` |") ? 1 : 0, 1);
    }

    private static void example(String text) {
        says(1, "the example of README.md");
        due(text.contains("hall.feud(100 * guest + other, 10, 1050);") ? 1 : 0, 1);
        Hall hall = new Hall();
        int host = hall.person(-1, 9, 0), guest = hall.person(host, 5, 1), other = hall.person(-1, 7, 1);
        due(host, 0);
        due(guest, 1);
        due(other, 2);
        due(hall.feud(100 * guest + other, 10, 1050), 0);
        due(hall.must(100 * other + guest, 7, 12), 1);
        due(hall.together(7, 100020, 0), 10);
        due(hall.peace(10 * host + 1, 6, 100020, 0), 0);
        due(hall.together(7, 100020, 0), OneRoof.NOT);
    }

    public static void main(String[] args) throws Exception {
        String text = Files.readString(Path.of("README.md"));
        calls(text);
        constants(text);
        example(text);
        end();
    }
}
