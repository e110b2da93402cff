import java.io.IOException;
import java.lang.reflect.Method;
import java.lang.reflect.Modifier;
import java.nio.charset.StandardCharsets;
import java.nio.file.Files;
import java.nio.file.Path;
import java.util.regex.Matcher;
import java.util.regex.Pattern;

/** What README.md says of the calls, done: its example line by line, and its table against the face. */
public final class ReadmeTest {
    private static final Pattern BLOCK = Pattern.compile("(?s)```java\n(.*?)```");
    private static final Pattern LINE = Pattern.compile("pot\\.(\\w+)\\(([-0-9, ]*)\\);\\s*// (-?\\d+)(, ([A-Z]+))?:.*");
    private static final String FIRST = "PotCuts pot = new PotCuts();";

    private static Method method(String name) {
        for (Method m : PotCuts.class.getDeclaredMethods()) {
            if (Modifier.isPublic(m.getModifiers()) && m.getName().equals(name)) {
                return m;
            }
        }
        return null;
    }

    private static Object[] numbers(String list) {
        if (list.isBlank()) {
            return new Object[0];
        }
        String[] texts = list.split(", ");
        Object[] all = new Object[texts.length];
        for (int i = 0; i < texts.length; i++) {
            all[i] = Integer.valueOf(texts[i]);
        }
        return all;
    }

    private static void line(Check check, PotCuts pot, String text) throws ReflectiveOperationException {
        Matcher m = LINE.matcher(text);
        boolean read = m.matches();
        check.holds("a call and its answer: " + text, read);
        Method called = read ? method(m.group(1)) : null;
        check.holds("a call of the face: " + text, called != null);
        if (called == null) {
            return;
        }
        int said = Integer.parseInt(m.group(3));
        check.due(text, (Integer) called.invoke(pot, numbers(m.group(2))), said);
        if (m.group(5) != null) {
            check.due(m.group(5), PotCuts.class.getField(m.group(5)).getInt(null), said);
        }
    }

    private static void example(Check check, String readme) throws ReflectiveOperationException {
        Matcher block = BLOCK.matcher(readme);
        boolean found = block.find();
        check.holds("there is an example", found);
        String[] lines = found ? block.group(1).split("\n") : new String[] {""};
        check.holds("it begins with a new pot", lines[0].equals(FIRST));
        PotCuts pot = new PotCuts();
        for (int i = 1; i < lines.length; i++) {
            line(check, pot, lines[i]);
        }
    }

    /** A row names a call as `name(parameters)`, with as many parameters as the face has. */
    private static void table(Check check, String readme) {
        StringBuilder rows = new StringBuilder();
        readme.lines().filter(line -> line.startsWith("| `")).forEach(line -> rows.append(line).append('\n'));
        for (Method m : PotCuts.class.getDeclaredMethods()) {
            if (Modifier.isPublic(m.getModifiers())) {
                int more = Math.max(0, m.getParameterCount() - 1);
                String inside = m.getParameterCount() == 0 ? "" : "\\w+(, \\w+){" + more + "}";
                Pattern call = Pattern.compile("`" + m.getName() + "\\(" + inside + "\\)`");
                check.holds("the table has " + m.getName(), call.matcher(rows).find());
            }
        }
    }

    public static void main(String[] args) throws IOException, ReflectiveOperationException {
        Check check = new Check("ReadmeTest");
        String readme = Files.readString(Path.of("README.md"), StandardCharsets.UTF_8);
        example(check, readme);
        table(check, readme);
        check.end();
    }
}
