import java.io.IOException;
import java.lang.reflect.Method;
import java.lang.reflect.Modifier;
import java.nio.file.Files;
import java.nio.file.Path;
import java.util.regex.Matcher;
import java.util.regex.Pattern;

// README.md: its examples answer what they say, and it names every call.
public final class ReadmeTest {
    private static final Pattern TEXT = Pattern.compile("String text = \"([^\"]*)\";");
    private static final Pattern CALL =
            Pattern.compile("x\\.(\\w+)\\(([-\\d, ]*)\\); *// (?:\\.\\.\\. by )?(-?\\d+)\\b.*");
    private static int wrong = 0;
    private static int looked = 0;

    private static void wrong(String what) {
        wrong++;
        System.out.println("README.md: " + what);
    }

    public static void main(String[] args) throws IOException, ReflectiveOperationException {
        String readme = Files.readString(Path.of("README.md"));
        TableShares x = new TableShares();
        for (String line : readme.lines().map(String::trim).toList()) {
            Matcher text = TEXT.matcher(line);
            Matcher call = CALL.matcher(line);
            if (line.startsWith("TableShares x = new")) {
                x = new TableShares();
            } else if (text.matches()) {
                text.group(1).chars().forEach(x::feed);
            } else if (call.matches()) {
                dueAsTold(x, line, call);
            } else if (line.startsWith("x.") && !line.startsWith("x.feed(text")) {
                wrong("this line tells no answer: " + line);
            }
        }
        if (looked == 0) {
            wrong("there is no example");
        }
        everyCallIsNamed(readme);
        System.out.println(wrong == 0 ? looked + " lines of the examples hold" : wrong + " things are not as told");
        if (wrong != 0) {
            System.exit(1);
        }
    }

    private static void dueAsTold(TableShares x, String line, Matcher call) throws ReflectiveOperationException {
        looked++;
        String[] told = call.group(2).isBlank() ? new String[0] : call.group(2).split(", *");
        Object[] numbers = new Object[told.length];
        Class<?>[] types = new Class<?>[told.length];
        for (int i = 0; i < told.length; i++) {
            numbers[i] = Integer.valueOf(told[i]);
            types[i] = int.class;
        }
        Object answer = TableShares.class.getMethod(call.group(1), types).invoke(x, numbers);
        if (!answer.equals(Integer.valueOf(call.group(3)))) {
            wrong(line + " answered " + answer);
        }
    }

    private static void everyCallIsNamed(String readme) {
        for (Method method : TableShares.class.getDeclaredMethods()) {
            if (Modifier.isPublic(method.getModifiers()) && !readme.contains("`" + method.getName() + "`")) {
                wrong("it does not name " + method.getName());
            }
        }
    }
}
