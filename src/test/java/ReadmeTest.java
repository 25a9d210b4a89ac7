import java.lang.reflect.Field;
import java.lang.reflect.Method;
import java.lang.reflect.Modifier;
import java.nio.file.Files;
import java.nio.file.Path;
import java.util.List;
import java.util.regex.Matcher;
import java.util.regex.Pattern;

/** The README's examples answer what their comments say, and its tables name the whole face. */
public final class ReadmeTest {
    private static final Check CHECK = new Check("ReadmeTest");
    private static final String NEW_OBJECT = "PoeSwitch poe = new PoeSwitch();";
    private static final Pattern CALL =
            Pattern.compile("poe\\.(\\w+)\\(([^)]*)\\);\\s+// (-?\\d+|[A-Z_]+)(:.*)?");

    public static void main(String[] args) throws Exception {
        // CI runs in the project's folder, so the page is found from there.
        Path page = Path.of("README.md");
        examples(Files.readAllLines(page));
        tables(Files.readString(page));
        CHECK.end();
    }

    private static void examples(List<String> lines) throws Exception {
        PoeSwitch poe = null;
        boolean inExample = false;
        int examples = 0;
        for (String line : lines) {
            if (line.startsWith("```")) {
                inExample = line.equals("```java");
            } else if (inExample && line.equals(NEW_OBJECT)) {
                poe = new PoeSwitch();
                examples++;
            } else if (inExample) {
                ask(poe, line);
            }
        }
        CHECK.due("the page has examples", examples > 0 ? 1 : 0, 1);
    }

    private static void ask(PoeSwitch poe, String line) throws Exception {
        Matcher call = CALL.matcher(line);
        boolean isCall = poe != null && call.matches();
        CHECK.due("a call with its answer: " + line, isCall ? 1 : 0, 1);
        if (isCall) {
            Method method = methodNamed(call.group(1));
            Object got = method.invoke(poe, arguments(method, call.group(2)));
            CHECK.due(line, (Integer) got, number(call.group(3)));
        }
    }

    private static Method methodNamed(String name) throws NoSuchMethodException {
        for (Method method : PoeSwitch.class.getMethods()) {
            if (method.getName().equals(name)) {
                return method;
            }
        }
        throw new NoSuchMethodException(name);
    }

    private static Object[] arguments(Method method, String text) {
        Class<?>[] types = method.getParameterTypes();
        String[] words = text.isEmpty() ? new String[0] : text.split(", ");
        Object[] values = new Object[words.length];
        for (int at = 0; at < words.length; at++) {
            boolean isTruth = at < types.length && types[at] == boolean.class;
            values[at] = isTruth ? (Object) Boolean.valueOf(words[at]) : (Object) Integer.valueOf(words[at]);
        }
        return values;
    }

    private static int number(String answer) throws Exception {
        boolean isName = Character.isUpperCase(answer.charAt(0));
        return isName ? PoeSwitch.class.getField(answer).getInt(null) : Integer.parseInt(answer);
    }

    private static void tables(String page) throws Exception {
        for (Method method : PoeSwitch.class.getDeclaredMethods()) {
            if (Modifier.isPublic(method.getModifiers())) {
                CHECK.due("names " + method, page.contains("`" + method.getName() + "`") ? 1 : 0, 1);
            }
        }
        for (Field field : PoeSwitch.class.getFields()) {
            String row = "| `" + field.getName() + "` | " + field.getInt(null) + " |";
            CHECK.due("has the row " + row, page.contains(row) ? 1 : 0, 1);
        }
        for (Path file : Files.list(Path.of("src/test/java")).toList()) {
            String name = file.getFileName().toString();
            if (name.endsWith("Test.java")) {
                String row = "| " + name.replace(".java", "") + " |";
                CHECK.due("has the row " + row, page.contains(row) ? 1 : 0, 1);
            }
        }
    }
}
