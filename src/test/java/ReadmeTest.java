import java.lang.reflect.Method;
import java.lang.reflect.Modifier;
import java.nio.file.Files;
import java.nio.file.Path;
import java.util.Set;
import java.util.TreeSet;
import java.util.regex.Matcher;
import java.util.regex.Pattern;

/** Every call that README.md shows answers what README.md says behind it, and no method is left out there. */
public final class ReadmeTest {
    private static final String MADE = "WordUnit unit = new WordUnit();";
    private static final Pattern CALL = Pattern.compile("unit\\.(\\w+)\\(([^)]*)\\); *// (-?\\d+)(:.*)?");

    private static WordUnit unit;
    private static final Set<String> shown = new TreeSet<>();

    public static void main(String[] args) throws Exception {
        boolean isJava = false;
        for (String line : Files.readAllLines(Path.of("README.md"))) {
            if (line.startsWith("```")) {
                isJava = line.equals("```java");
            } else if (isJava && !line.isEmpty()) {
                look(line);
            }
        }
        for (Method method : WordUnit.class.getDeclaredMethods()) {
            boolean isOpen = Modifier.isPublic(method.getModifiers());
            Due.dueTrue("README.md shows " + method.getName(), !isOpen || shown.contains(method.getName()));
        }
        Due.end();
    }

    private static void look(String line) throws Exception {
        if (line.equals(MADE)) {
            unit = new WordUnit();
            return;
        }
        Matcher call = CALL.matcher(line);
        boolean isCall = unit != null && call.matches();
        Due.dueTrue("README.md's row is a call with its answer: " + line, isCall);
        if (isCall) {
            shown.add(call.group(1));
            Due.due("README.md: " + line, Integer.parseInt(call.group(3)), answer(call.group(1), call.group(2)));
        }
    }

    private static int answer(String name, String list) throws Exception {
        String[] texts = list.isEmpty() ? new String[0] : list.split(", *");
        Object[] numbers = new Object[texts.length];
        Class<?>[] types = new Class<?>[texts.length];
        for (int i = 0; i < texts.length; i++) {
            numbers[i] = Long.decode(texts[i]).intValue(); // 0xFFFFFFFF is an int to Java's compiler
            types[i] = int.class;
        }
        return (Integer) WordUnit.class.getMethod(name, types).invoke(unit, numbers);
    }
}
