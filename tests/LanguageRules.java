import java.lang.reflect.Field;
import java.lang.reflect.Method;
import java.lang.reflect.Modifier;
import java.nio.file.Files;
import java.nio.file.Path;
import java.util.Arrays;
import java.util.List;
import java.util.Set;
import java.util.TreeSet;

/** Looks at the face by reflection, and in the source for what LANGUAGE.md leaves out. */
public final class LanguageRules {
    private static int wrong = 0;

    private static void fault(String what) {
        wrong++;
        System.out.println(what);
    }

    private static final String FACE = "person people of sword kin steps feud pay near peace ofPeace cover holds between proof feed custom must together "
        + "bars most rooms buy road leave strike blow alive worst wed undo redo act trace keep row put element shift taken count";

    private static void face() {
        Set<String> wanted = new TreeSet<>(Arrays.asList(FACE.split(" "))), found = new TreeSet<>();
        for (Method m : OneRoof.class.getDeclaredMethods()) {
            if (m.isSynthetic()) continue;
            if (Modifier.isPublic(m.getModifiers())) found.add(m.getName());
            else if (!Modifier.isPrivate(m.getModifiers())) fault("a method that is neither public nor private: " + m);
            else if (wanted.contains(m.getName())) fault("a private method with a public one's name: " + m);
        }
        if (!found.equals(wanted)) fault("the face is " + found);
        Set<String> constants = new TreeSet<>();
        for (Field f : OneRoof.class.getDeclaredFields()) {
            if (Modifier.isPublic(f.getModifiers())) constants.add(f.getName());
            else if (!Modifier.isPrivate(f.getModifiers())) fault("a field that is neither public nor private: " + f);
        }
        if (!constants.equals(new TreeSet<>(Arrays.asList("BAD", "NOT", "FULL", "STATE", "VOID")))) fault("constants are " + constants);
        if (OneRoof.class.getDeclaredClasses().length > 11) fault("more than twelve classes");
        for (Class<?> c : OneRoof.class.getDeclaredClasses()) {
            if (!Modifier.isStatic(c.getModifiers())) fault("an inner class that is not static: " + c);
            int fields = 0;
            for (Field f : c.getDeclaredFields()) {
                if (!Modifier.isStatic(f.getModifiers())) fields++;
                else if (!Modifier.isFinal(f.getModifiers())) fault("a static field that is not final: " + f);
            }
            if (fields > 20) fault("more than twenty fields: " + c);
            for (Method m : c.getDeclaredMethods()) {
                if (wanted.contains(m.getName())) fault("a method inside with a public one's name: " + m);
                if (m.getParameterCount() > 7) fault("more than seven parameters: " + m);
            }
        }
    }

    private static void words() throws Exception {
        List<String> lines = Files.readAllLines(Path.of("src/main/java/OneRoof.java"));
        String[] out = {"throw", "try", "catch", "synchronized", "assert", "static {", "->", "::", "Exact(", "System.out", "nanoTime", "Random", "package ",
            "hashCode", "toString", "protected", "Object", "Arrays.sort", "long[][]", "new Thread"};
        for (int i = 0; i < lines.size(); i++) {
            String line = lines.get(i).replaceAll("//.*|^\\s*/?\\*.*", "");
            for (String word : out) if (line.contains(word)) fault("line " + (i + 1) + " has '" + word + "': " + line.trim());
            for (char c : line.toCharArray()) if (c > 126) fault("line " + (i + 1) + " has a sign above 127");
        }
        int from = -1;
        for (int i = 0; i < lines.size(); i++) {
            String line = lines.get(i);
            if (from < 0 && line.matches(" +(public |private |static )*[a-zA-Z\\[\\]]+ ?[a-zA-Z]*\\(.*\\) \\{") && !line.matches(" *(if|for|while|switch|else).*")) from = i;
            if (from >= 0 && line.matches(lines.get(from).replaceAll("\\S.*", "") + "\\}")) {
                if (i - from > 60) fault("a method of more than sixty lines at " + (from + 1));
                from = -1;
            }
        }
    }

    public static void main(String[] args) throws Exception {
        face();
        words();
        System.out.println(wrong == 0 ? "the rules are kept" : wrong + " rules are not kept");
        if (wrong != 0) System.exit(1);
    }
}
