import java.io.IOException;
import java.lang.reflect.Method;
import java.lang.reflect.Modifier;
import java.nio.file.Files;
import java.nio.file.Path;
import java.util.ArrayList;
import java.util.List;
import java.util.regex.Matcher;
import java.util.regex.Pattern;

// Those of the rules in ../shared/LANGUAGE.md that can be seen from the program's text and its classes.
public final class RulesTest {
    private static final String WORDS = "import|package|throw|throws|try|catch|finally|synchronized|assert|instanceof|"
            + "protected|var|record|enum|interface|equals|hashCode|toString|System\\.(?!arraycopy)|Thread|Exact|"
            + "StringBuilder|NaN|native|volatile|transient";
    private static int wrong = 0;

    private static void due(String what, boolean holds) {
        if (!holds) {
            wrong++;
            System.out.println(what);
        }
    }

    public static void main(String[] args) throws IOException {
        List<String> lines = Files.readAllLines(Path.of("src/main/java/TableShares.java"));
        StringBuilder code = new StringBuilder();
        for (String line : lines) {
            due("a sign above 127: " + line, line.chars().allMatch(sign -> sign < 128));
            code.append(line.trim().startsWith("//") ? "" : line).append('\n');
        }
        Matcher word = Pattern.compile("(?<!\\w)(?:" + WORDS + ")|->|::|@").matcher(code);
        while (word.find()) {
            due("the program uses " + word.group(), false);
        }
        methodsAreShort(lines);
        List<Class<?>> classes = new ArrayList<>();
        classes.add(TableShares.class);
        classes.addAll(List.of(TableShares.class.getDeclaredClasses()));
        due("more than 12 classes", classes.size() <= 12);
        for (Class<?> each : classes) {
            classKeepsTheRules(each);
        }
        System.out.println(wrong == 0 ? "all rules are kept" : wrong + " rules are not kept");
        if (wrong != 0) {
            System.exit(1);
        }
    }

    private static void methodsAreShort(List<String> lines) {
        int begun = 0;
        String end = "";
        for (int i = 0; i < lines.size(); i++) {
            String line = lines.get(i);
            if (line.matches(" +(public|private) .*\\) \\{")) {
                begun = i;
                end = line.substring(0, line.indexOf('p')) + "}";
            }
            due("a method of more than 60 lines, from line " + (begun + 1), !line.equals(end) || i - begun < 60);
        }
    }

    private static void classKeepsTheRules(Class<?> each) {
        boolean inside = each != TableShares.class;
        int modifiers = each.getModifiers();
        due(each + " is not static", !inside || Modifier.isStatic(modifiers));
        due(each + " is seen from outside", !inside || !Modifier.isPublic(modifiers));
        due(each + " has more than 20 fields", List.of(each.getDeclaredFields()).stream()
                .filter(field -> !Modifier.isStatic(field.getModifiers())).count() <= 20);
        for (Method method : each.getDeclaredMethods()) {
            due(method + " has more than seven parameters", method.getParameterCount() <= 7);
            due(method + " bears the name of a public one",
                    Modifier.isPublic(method.getModifiers()) && !inside || !isOfTheFace(method.getName()));
        }
    }

    private static boolean isOfTheFace(String name) {
        for (Method method : TableShares.class.getDeclaredMethods()) {
            if (Modifier.isPublic(method.getModifiers()) && method.getName().equals(name)) {
                return true;
            }
        }
        return false;
    }
}
