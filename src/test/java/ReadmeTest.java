import java.io.IOException;
import java.lang.reflect.Constructor;
import java.lang.reflect.Executable;
import java.lang.reflect.InvocationTargetException;
import java.lang.reflect.Method;
import java.lang.reflect.Modifier;
import java.nio.file.Files;
import java.nio.file.Path;
import java.util.List;
import java.util.regex.Matcher;
import java.util.regex.Pattern;

/** README.md tells every public method, and its example answers what it says. */
public final class ReadmeTest {
    private static final Pattern EXAMPLE = Pattern.compile("forms\\.(\\w+)\\((.*)\\);\\s+// (-?\\w+)(: .*)?");
    private static final Due due = new Due();

    public static void main(String[] args) throws IOException, ReflectiveOperationException {
        List<String> lines = Files.readAllLines(Path.of("README.md"));
        everyMemberIsTold(lines);
        theExampleHolds(lines);
        due.close("ReadmeTest");
    }

    private static void everyMemberIsTold(List<String> lines) {
        int members = 0;
        for (Method method : SignForms.class.getDeclaredMethods()) {
            if (Modifier.isPublic(method.getModifiers())) {
                isTold(lines, method.getReturnType().getName() + " " + method.getName(), method);
                members++;
            }
        }
        for (Constructor<?> constructor : SignForms.class.getConstructors()) {
            isTold(lines, constructor.getName(), constructor);
            members++;
        }
        long told = lines.stream().filter(line -> line.matches("- `[\\w ]+\\(.*")).count();
        due.is("no other method is told", told, members);
    }

    /** A list's line that begins with the member's head, whatever its parameters are called. */
    private static void isTold(List<String> lines, String head, Executable member) {
        StringBuilder types = new StringBuilder();
        for (Class<?> type : member.getParameterTypes()) {
            types.append(types.length() > 0 ? ", " : "").append(type.getName()).append(" \\w+");
        }
        String line = "- `" + head + "\\(" + types + "\\)`: .*";
        due.is(head + " is told", lines.stream().filter(each -> each.matches(line)).count(), 1);
    }

    private static void theExampleHolds(List<String> lines) throws ReflectiveOperationException {
        SignForms forms = new SignForms();
        int calls = 0;
        for (String line : lines) {
            if (line.startsWith("forms.")) {
                Matcher example = EXAMPLE.matcher(line);
                due.is("an example with its answer: " + line, example.matches(), true);
                if (example.matches()) {
                    due.is(line, answer(forms, example.group(1), example.group(2)), number(example.group(3)));
                }
                calls++;
            }
        }
        due.is("there are examples", calls > 0, true);
    }

    private static long answer(SignForms forms, String name, String arguments)
            throws IllegalAccessException, InvocationTargetException {
        String[] texts = arguments.split(", ");
        for (Method method : SignForms.class.getDeclaredMethods()) {
            if (method.getName().equals(name) && method.getParameterCount() == texts.length) {
                Object answer = method.invoke(forms, values(texts, method.getParameterTypes()));
                return answer instanceof Boolean truth ? (truth ? 1 : 0) : (Integer) answer;
            }
        }
        return Long.MIN_VALUE;
    }

    private static Object[] values(String[] texts, Class<?>[] types) {
        Object[] values = new Object[texts.length];
        for (int k = 0; k < texts.length; k++) {
            if (types[k] == boolean.class) {
                values[k] = texts[k].equals("true");
            } else if (types[k] == long.class) {
                values[k] = number(texts[k]);
            } else {
                values[k] = (int) number(texts[k]);
            }
        }
        return values;
    }

    private static long number(String text) {
        if (text.equals("true") || text.equals("false")) {
            return text.equals("true") ? 1 : 0;
        }
        return Long.decode(text.endsWith("L") ? text.substring(0, text.length() - 1) : text);
    }
}
