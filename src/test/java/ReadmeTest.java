import java.lang.reflect.Method;
import java.lang.reflect.Modifier;
import java.nio.file.Files;
import java.nio.file.Path;
import java.util.Arrays;
import java.util.HashMap;
import java.util.Map;
import java.util.regex.Matcher;
import java.util.regex.Pattern;

/** README.md: its calls are made, and answer what it says; it names each call of the face and each refusal. */
public final class ReadmeTest {
    private static final Pattern MADE = Pattern.compile("RungBackwards (\\w+) = new RungBackwards\\(\\);");
    private static final Pattern FED = Pattern.compile("for \\(char letter : \"([^\"]*)\".*\\) (\\w+)\\.feed\\(letter\\);");
    private static final Pattern CALLED = Pattern.compile("(?:int (\\w+) = )?((\\w+)\\.(\\w+)\\(([^)]*)\\)); +// (-?\\d+)(:.*)?");

    private static final Map<String, RungBackwards> OBJECTS = new HashMap<>();
    private static final Map<String, Long> NUMBERS = new HashMap<>();

    public static void main(String[] args) throws Exception {
        Path root = Path.of(System.getProperty("project.root", "."));
        String text = Files.readString(root.resolve("README.md"));
        int calls = 0;
        Matcher block = Pattern.compile("(?s)```java\n(.*?)```").matcher(text);
        while (block.find()) {
            for (String line : block.group(1).split("\n")) {
                calls += carriesOut(line) ? 1 : 0;
            }
        }
        Due.due("calls were made", calls >= 20 ? 1 : 0, 1);
        namesAll(text);
        refusals(text);
        places(root, text);
        Due.end();
    }

    /** Whether the line asks for an answer. */
    private static boolean carriesOut(String line) throws Exception {
        Matcher made = MADE.matcher(line);
        if (made.matches()) {
            OBJECTS.put(made.group(1), new RungBackwards());
            return false;
        }
        Matcher fed = FED.matcher(line);
        if (fed.matches()) {
            Due.feed(OBJECTS.get(fed.group(2)), fed.group(1));
            return false;
        }
        Matcher called = CALLED.matcher(line);
        if (!called.matches()) {
            Due.due("a line that can't be carried out: " + line, 1, 0);
            return false;
        }
        long answer = answerOf(OBJECTS.get(called.group(3)), called.group(4), called.group(5));
        Due.due("README.md: " + called.group(2), answer, Long.parseLong(called.group(6)));
        if (called.group(1) != null) {
            NUMBERS.put(called.group(1), answer);
        }
        return true;
    }

    private static long answerOf(RungBackwards x, String name, String told) throws Exception {
        String[] words = told.isEmpty() ? new String[0] : told.split(", ");
        for (Method m : RungBackwards.class.getDeclaredMethods()) {
            if (Modifier.isPublic(m.getModifiers()) && m.getName().equals(name) && m.getParameterCount() == words.length) {
                Object[] given = new Object[words.length];
                for (int i = 0; i < words.length; i++) {
                    Long number = NUMBERS.get(words[i]);
                    long v = number != null ? number : Long.parseLong(words[i]);
                    given[i] = m.getParameterTypes()[i] == long.class ? (Object) v : (Object) (int) v;
                }
                return ((Number) m.invoke(x, given)).longValue();
            }
        }
        throw new IllegalArgumentException(name);
    }

    private static void namesAll(String text) {
        for (Method m : RungBackwards.class.getDeclaredMethods()) {
            if (Modifier.isPublic(m.getModifiers())) {
                Due.due("README.md has " + m.getName(), text.contains("`" + m.getName() + "`") ? 1 : 0, 1);
            }
        }
        int listed = text.indexOf("## The calls");
        Due.due("README.md has a list of calls", listed >= 0 ? 1 : 0, 1);
        Matcher named = Pattern.compile("(?m)^\\|.*\\| ((?:`\\w+` ?)+)\\|$").matcher(text.substring(Math.max(0, listed)));
        int found = 0;
        while (named.find()) {
            found += named.group(1).trim().split(" ").length;
        }
        Due.due("it has each once", found, 60);
    }

    private static void refusals(String text) {
        String[] names = {"BAD", "OTHER", "NOTHING", "STUCK", "FULL"};
        for (int i = 0; i < names.length; i++) {
            String row = "(?m)^\\| " + (-2 - i) + " \\| " + names[i] + " \\|.*\\| `status\\(" + (12 + i) + "\\)` \\|$";
            Due.due("README.md has " + names[i], Pattern.compile(row).matcher(text).find() ? 1 : 0, 1);
        }
        String never = text.substring(0, Math.max(0, text.indexOf("are never refused")));
        never = never.substring(never.lastIndexOf('\n') + 1);
        String[] free = {"element", "holds", "status", "wipe", "day", "seed", "pillar", "image"};
        Due.due("as many are never refused", Arrays.stream(never.split("`")).filter(s -> s.matches("\\w+")).filter(
            s -> !s.equals("and")).count(), free.length);
        for (String name : free) {
            Due.due("README.md says that " + name + " is never refused", never.contains("`" + name + "`") ? 1 : 0, 1);
        }
    }

    /** The files that it names are there. */
    private static void places(Path root, String text) {
        Matcher named = Pattern.compile("(?:\\.\\./shared|src|\\.ci)/[\\w/.]*\\w").matcher(text);
        int found = 0;
        while (named.find()) {
            Due.due(named.group() + " is there", Files.exists(root.resolve(named.group())) ? 1 : 0, 1);
            found++;
        }
        Due.due("README.md names files", found > 5 ? 1 : 0, 1);
    }
}
