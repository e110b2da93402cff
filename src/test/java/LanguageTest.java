import java.lang.management.ManagementFactory;
import java.lang.reflect.Constructor;
import java.lang.reflect.Field;
import java.lang.reflect.Method;
import java.lang.reflect.Modifier;
import java.nio.charset.StandardCharsets;
import java.nio.file.Files;
import java.nio.file.Path;
import java.util.Arrays;
import java.util.Set;
import java.util.TreeSet;
import java.util.regex.Matcher;
import java.util.regex.Pattern;

/** What of LANGUAGE.md and of the document's face can be looked at from outside. */
public final class LanguageTest {
    private static final Set<String> FACE = new TreeSet<>(Set.of(
            "wash/4", "table/2", "rule/2", "over/1", "run/0", "litre/2", "part/2", "kept/1", "pour/0",
            "settled/1", "best/1", "take/0", "cask/2", "page/2", "weed/1", "image/1", "restore/1", "count/1"));
    private static final int LONGEST_METHOD = 60;
    private static final int MOST_CLASSES = 12;
    private static final int MOST_FIELDS = 20;

    private static void face(Check check) {
        int mods = PotCuts.class.getModifiers();
        check.holds("the class is public and final", Modifier.isPublic(mods) && Modifier.isFinal(mods));
        Set<String> open = new TreeSet<>();
        Set<String> openNames = new TreeSet<>();
        for (Method m : PotCuts.class.getDeclaredMethods()) {
            if (!Modifier.isPrivate(m.getModifiers())) {
                open.add(m.getName() + "/" + m.getParameterCount());
                openNames.add(m.getName());
                check.holds(m + " is public, of the object, and answers an int", m.getReturnType() == int.class
                        && Modifier.isPublic(m.getModifiers()) && !Modifier.isStatic(m.getModifiers()));
            }
        }
        check.holds("the methods are those of the face: " + open, open.equals(FACE));
        for (Method m : PotCuts.class.getDeclaredMethods()) {
            if (Modifier.isPrivate(m.getModifiers())) {
                check.holds(m.getName() + " bears no name of the face", !openNames.contains(m.getName()));
            }
        }
        Constructor<?>[] made = PotCuts.class.getDeclaredConstructors();
        check.holds("one constructor, without parameters", made.length == 1
                && made[0].getParameterCount() == 0 && Modifier.isPublic(made[0].getModifiers()));
        constants(check);
    }

    private static void constants(Check check) {
        int[] got = {PotCuts.UNKNOWN, PotCuts.OUTSIDE, PotCuts.STATE, PotCuts.FULL, PotCuts.NO, PotCuts.NONE};
        check.holds("the constants are as told", Arrays.equals(got, new int[] {-1, -2, -3, -4, -5, -6}));
        int open = 0;
        for (Field f : PotCuts.class.getDeclaredFields()) {
            if (!Modifier.isPrivate(f.getModifiers())) {
                open++;
                check.holds(f.getName() + " is a public constant", Modifier.isPublic(f.getModifiers())
                        && Modifier.isStatic(f.getModifiers()) && Modifier.isFinal(f.getModifiers()));
            }
        }
        check.due("how many constants are public", open, 6);
    }

    private static void classes(Check check) {
        Class<?>[] inside = PotCuts.class.getDeclaredClasses();
        check.holds("not too many classes", inside.length + 1 <= MOST_CLASSES);
        for (Class<?> c : inside) {
            check.holds(c + " is static", Modifier.isStatic(c.getModifiers()));
            check.holds(c + " is not public", !Modifier.isPublic(c.getModifiers()));
            check.due(c + " has classes inside", c.getDeclaredClasses().length, 0);
            members(check, c);
        }
        members(check, PotCuts.class);
    }

    private static void members(Check check, Class<?> c) {
        int fields = 0;
        for (Field f : c.getDeclaredFields()) {
            if (Modifier.isStatic(f.getModifiers())) {
                check.holds(f + " is final", Modifier.isFinal(f.getModifiers()));
            } else {
                fields++;
            }
        }
        check.holds(c + " has not too many fields", fields <= MOST_FIELDS);
        for (Method m : c.getDeclaredMethods()) {
            check.holds(m + " has at most seven parameters", m.getParameterCount() <= 7);
        }
    }

    private static String withoutComments(String source) {
        return source.replaceAll("(?s)/\\*.*?\\*/", "").replaceAll("//[^\n]*", "");
    }

    private static void words(Check check, String code) {
        String[] forbidden = {"throw", "throws", "try", "catch", "synchronized", "assert", "import", "package",
            "->", "::", "Exact", "System\\.(?!arraycopy)", "protected", "volatile", "Object", "hashCode", "@"};
        for (String word : forbidden) {
            boolean letters = Character.isLetter(word.charAt(0)) && !word.equals("Exact") && !word.startsWith("System");
            Matcher m = Pattern.compile(letters ? "\\b" + word + "\\b" : word).matcher(code);
            check.holds("the program has no " + word, !m.find());
        }
        check.holds("no static block", !Pattern.compile("\\bstatic\\s*\\{").matcher(code).find());
        check.holds("no text", code.indexOf('"') < 0);
        check.holds("only plain signs", code.chars().allMatch(c -> c < 128));
    }

    private static void methodLengths(Check check, String code) {
        String[] lines = code.split("\n");
        Pattern head = Pattern.compile("^( {4}| {8})[A-Za-z].*\\) \\{$");
        for (int i = 0; i < lines.length; i++) {
            Matcher m = head.matcher(lines[i]);
            if (m.matches()) {
                int end = i;
                while (end < lines.length && !lines[end].equals(m.group(1) + "}")) {
                    end++;
                }
                check.holds("short: " + lines[i].trim(), end - i < LONGEST_METHOD);
            }
        }
    }

    private static void dearCalls(PotCuts pot) {
        pot.wash(16, 10, 80, 51);
        pot.settled(0);
        pot.best(0);
        pot.cask(999, 1);
        pot.run();
        pot.litre(0, 1);
        pot.part(2, 1);
        pot.page(0, 1);
        pot.image(0);
        pot.weed(1);
        pot.restore(0);
        pot.take();
        pot.count(0);
    }

    /** All calls of a run share one room, so calls make nothing; the slack is for the machine's own doings. */
    private static void room(Check check) {
        if (ManagementFactory.getThreadMXBean() instanceof com.sun.management.ThreadMXBean bean
                && bean.isThreadAllocatedMemorySupported()) {
            PotCuts pot = new PotCuts();
            dearCalls(pot);
            long id = Thread.currentThread().getId();
            long before = bean.getThreadAllocatedBytes(id);
            for (int i = 0; i < 1000; i++) {
                dearCalls(pot);
            }
            long made = bean.getThreadAllocatedBytes(id) - before;
            check.holds("13000 calls make nothing (" + made + " bytes)", made < 13000);
        }
    }

    public static void main(String[] args) throws Exception {
        Check check = new Check("LanguageTest");
        face(check);
        classes(check);
        String file = args.length > 0 ? args[0] : "src/main/java/PotCuts.java";
        String code = withoutComments(Files.readString(Path.of(file), StandardCharsets.UTF_8));
        words(check, code);
        methodLengths(check, code);
        room(check);
        check.end();
    }
}
