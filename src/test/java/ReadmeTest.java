import java.io.IOException;
import java.lang.reflect.InvocationTargetException;
import java.lang.reflect.Method;
import java.nio.file.Files;
import java.nio.file.Path;
import java.util.regex.Matcher;
import java.util.regex.Pattern;

/** README.md's examples answer what it tells behind each call; it is found from the project's folder. */
public final class ReadmeTest {
    private static final Pattern CALL =
        Pattern.compile("house\\.(\\w+)\\(([-0-9, ]*)\\); +// (-?\\d+|throws \\w+)\\b.*");
    private static final Pattern WRITE = Pattern.compile("write\\(house, \"(.*)\"\\);");

    private final Checks checks = new Checks();
    private VatHouse house;
    private int calls;

    public static void main(String[] args) throws IOException {
        ReadmeTest test = new ReadmeTest();
        boolean inExample = false;
        for (String line : Files.readAllLines(Path.of("README.md"))) {
            if (line.startsWith("```")) {
                inExample = line.equals("```java");
            } else if (inExample) {
                test.follow(line);
            }
        }
        if (test.calls == 0) {
            test.checks.tell("README.md has no example");
        }
        test.checks.end();
    }

    private void follow(String line) {
        Matcher call = CALL.matcher(line);
        Matcher write = WRITE.matcher(line);
        if (line.equals("VatHouse house = new VatHouse();")) {
            house = new VatHouse();
        } else if (write.matches()) {
            Houses.write(house, write.group(1));
        } else if (call.matches()) {
            calls++;
            String answer = answerOf(call.group(1), call.group(2));
            if (!answer.equals(call.group(3))) {
                checks.tell(line + " answered " + answer);
            }
        } else {
            checks.tell("README.md has a line that is no call with its answer: " + line);
        }
    }

    private String answerOf(String name, String written) {
        String[] parts = written.split(", *");
        Object[] numbers = new Object[parts.length];
        for (int i = 0; i < parts.length; i++) {
            numbers[i] = Integer.valueOf(parts[i]);
        }
        try {
            return String.valueOf(methodOf(name).invoke(house, numbers));
        } catch (InvocationTargetException thrown) {
            return "throws " + thrown.getCause().getClass().getSimpleName();
        } catch (IllegalAccessException closed) {
            return "nothing: the call is not public";
        }
    }

    private static Method methodOf(String name) {
        for (Method method : VatHouse.class.getDeclaredMethods()) {
            if (method.getName().equals(name)) {
                return method;
            }
        }
        throw new IllegalArgumentException("no such call: " + name);
    }
}
