import java.io.IOException;
import java.lang.reflect.Field;
import java.lang.reflect.Method;
import java.lang.reflect.Modifier;
import java.nio.file.Files;
import java.nio.file.Path;
import java.util.regex.Matcher;
import java.util.regex.Pattern;

/** What README.md says of the class: its example, its calls and its constants. */
public final class ReadmeTest {
    private static final Due due = new Due("ReadmeTest");
    private static final Pattern CALL =
        Pattern.compile("rolls\\.(\\w+)\\(([^)]*)\\); *// (-?\\d+|[A-Z_]+).*");
    private static final Pattern TEXT = Pattern.compile("for \\(char \\w+ : \"(.*)\"\\..*");

    public static void main(String[] args) throws IOException, ReflectiveOperationException {
        String page = Files.readString(Path.of("README.md"));
        example(page);
        calls(page);
        constants(page);
        due.end();
    }

    private static void example(String page) throws ReflectiveOperationException {
        int begin = page.indexOf("```java\n") + 8;
        NameRolls rolls = new NameRolls();
        int rows = 0;
        for (String line : page.substring(begin, page.indexOf("```", begin)).split("\n")) {
            Matcher text = TEXT.matcher(line);
            Matcher call = CALL.matcher(line);
            if (text.lookingAt()) {
                Due.write(rolls, text.group(1));
            } else if (call.matches()) {
                due.is(line, answer(rolls, call.group(1), call.group(2)), number(call.group(3)));
                rows++;
            }
        }
        due.is("the example has rows", rows >= 10 ? 1 : 0, 1);
        due.is("the example has no row without an answer", count(page, "(?m)^rolls\\."), rows);
    }

    private static int answer(NameRolls rolls, String name, String arguments)
            throws ReflectiveOperationException {
        String[] parts = arguments.isEmpty() ? new String[0] : arguments.split(", ");
        Class<?>[] types = new Class<?>[parts.length];
        Object[] values = new Object[parts.length];
        for (int i = 0; i < parts.length; i++) {
            types[i] = int.class;
            values[i] = Integer.valueOf(parts[i]);
        }
        return (Integer) NameRolls.class.getMethod(name, types).invoke(rolls, values);
    }

    private static int number(String told) throws ReflectiveOperationException {
        boolean constant = Character.isLetter(told.charAt(0));
        return constant ? NameRolls.class.getField(told).getInt(null) : Integer.parseInt(told);
    }

    private static void calls(String page) {
        for (Method method : NameRolls.class.getDeclaredMethods()) {
            if (Modifier.isPublic(method.getModifiers())) {
                int parameters = method.getParameterCount();
                String row = "\\| `" + method.getName() + "\\("
                    + (parameters == 0 ? "" : "\\w+" + ", \\w+".repeat(parameters - 1)) + "\\)`";
                due.is("a row for " + method.getName(), count(page, row), 1);
            }
        }
    }

    private static void constants(String page) throws ReflectiveOperationException {
        for (Field field : NameRolls.class.getFields()) {
            String row = "\\| `" + field.getName() + "` \\| " + field.getInt(null) + " \\|";
            due.is("a row for " + field.getName(), count(page, row), 1);
        }
    }

    private static int count(String page, String pattern) {
        return (int) Pattern.compile(pattern).matcher(page).results().count();
    }
}
