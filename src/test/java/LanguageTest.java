import java.lang.reflect.Constructor;
import java.lang.reflect.Field;
import java.lang.reflect.Member;
import java.lang.reflect.Method;
import java.lang.reflect.Modifier;
import java.nio.file.Files;
import java.nio.file.Path;
import java.util.Arrays;
import java.util.HashSet;
import java.util.Set;
import java.util.TreeSet;
import java.util.regex.Matcher;
import java.util.regex.Pattern;

/** The face as the document has it, and what of LANGUAGE.md can be seen from outside and in the text. */
public final class LanguageTest {
    private static final String[] RULED_OUT = {"throw", "try", "catch", "synchronized", "assert", "->", "::", "import",
        "package", "static {", "while (true)", "for (;;)", "Exact(", "hashCode", "toString", "System.out", "Thread"};

    public static void main(String[] args) throws Exception {
        face();
        none();
        for (Class<?> inside : RungBackwards.class.getDeclaredClasses()) {
            inside(inside);
        }
        text();
        Due.end();
    }

    private static void face() throws Exception {
        Class<?> face = RungBackwards.class;
        Due.due("public and final", face.getModifiers(), Modifier.PUBLIC | Modifier.FINAL);
        Set<String> open = new TreeSet<>();
        Set<String> names = new HashSet<>();
        for (Method m : face.getDeclaredMethods()) {
            if (Modifier.isPrivate(m.getModifiers())) {
                continue;
            }
            names.add(m.getName());
            Due.due(m + " is public alone", m.getModifiers(), Modifier.PUBLIC);
            String types = String.join(",", Arrays.stream(m.getParameterTypes()).map(Class::getName).toList());
            String back = m.getReturnType() == int.class ? "" : ":" + m.getReturnType().getName();
            open.add(m.getName() + "(" + types + ")" + back);
        }
        Due.same("the face", open.toString(), faceTold().toString());
        Due.due("methods of the face", open.size(), 60);
        Due.due("no class above it", face.getSuperclass() == Object.class && face.getInterfaces().length == 0 ? 1 : 0, 1);
        for (Class<?> c : allClasses()) {
            for (Method m : c.getDeclaredMethods()) {
                boolean shared = Modifier.isPrivate(m.getModifiers()) && names.contains(m.getName());
                Due.due("private " + m + " bears a public name", shared ? 1 : 0, 0);
                Due.due(m + " takes seven at most", m.getParameterCount() > 7 ? 1 : 0, 0);
            }
            fields(c);
        }
        for (Constructor<?> c : face.getDeclaredConstructors()) {
            Due.due("constructor", c.getModifiers() == Modifier.PUBLIC && c.getParameterCount() == 0 ? 1 : 0, 1);
        }
        Due.due("constructors", face.getDeclaredConstructors().length, 1);
        Due.due("classes, some twelve", allClasses().length <= 12 ? 1 : 0, 1);
    }

    /** The methods of the document's public face, each with its types. */
    private static Set<String> faceTold() throws Exception {
        Path root = Path.of(System.getProperty("project.root", "."));
        String doc = Files.readString(root.resolve("../shared/DOC.md"));
        int start = doc.indexOf("```java\n", doc.indexOf("## The public face"));
        String block = doc.substring(start, doc.indexOf("```", start + 7));
        Set<String> told = new TreeSet<>();
        Matcher method = Pattern.compile("(?m)^ {4}public (int|long) (\\w+)\\(([^)]*)\\);$").matcher(block);
        while (method.find()) {
            String types = method.group(3).replaceAll("(int|long) \\w+", "$1").replace(" ", "");
            told.add(method.group(2) + "(" + types + ")" + (method.group(1).equals("int") ? "" : ":long"));
        }
        long others = block.lines().count() - told.size();
        Due.due("lines besides methods: the class, its end, NONE, the constructor", others, 5);
        return told;
    }

    private static void none() throws Exception {
        Field none = RungBackwards.class.getDeclaredField("NONE");
        Due.due("NONE is public, static, final", none.getModifiers(), Modifier.PUBLIC | Modifier.STATIC | Modifier.FINAL);
        Due.due("NONE is an int", none.getType() == int.class ? 1 : 0, 1);
        Due.due("NONE", RungBackwards.NONE, -1);
    }

    private static Class<?>[] allClasses() {
        Class<?>[] inside = RungBackwards.class.getDeclaredClasses();
        Class<?>[] all = Arrays.copyOf(inside, inside.length + 1);
        all[inside.length] = RungBackwards.class;
        return all;
    }

    private static void fields(Class<?> c) {
        int own = 0;
        for (Field f : c.getDeclaredFields()) {
            if (Modifier.isStatic(f.getModifiers())) {
                Due.due("static " + f + " is final", Modifier.isFinal(f.getModifiers()) ? 1 : 0, 1);
            } else {
                own++;
            }
            boolean open = c == RungBackwards.class && !isHidden(f) && !f.getName().equals("NONE");
            Due.due("open " + f, open ? 1 : 0, 0);
        }
        Due.due("fields of " + c + ", some twenty", own <= 20 ? 1 : 0, 1);
    }

    private static boolean isHidden(Member m) {
        return Modifier.isPrivate(m.getModifiers());
    }

    private static void inside(Class<?> c) {
        Due.due(c + " is static", Modifier.isStatic(c.getModifiers()) ? 1 : 0, 1);
        boolean open = Modifier.isPublic(c.getModifiers()) || Modifier.isProtected(c.getModifiers());
        Due.due(c + " is not open", open ? 1 : 0, 0);
        Due.due(c + " has no classes inside", c.getDeclaredClasses().length, 0);
    }

    private static void text() throws Exception {
        Path root = Path.of(System.getProperty("project.root", "."));
        String text = Files.readString(root.resolve("src/main/java/RungBackwards.java"));
        for (int i = 0; i < text.length(); i++) {
            boolean plain = text.charAt(i) == '\n' || text.charAt(i) >= ' ' && text.charAt(i) <= '~';
            Due.due("sign " + i + " is plain", plain ? 1 : 0, 1);
        }
        String code = text.replaceAll("(?s)/\\*.*?\\*/", " ").replaceAll("//[^\n]*", " ").replaceAll("\"[^\"]*\"", "x");
        for (String word : RULED_OUT) {
            boolean letters = Character.isLetter(word.charAt(0)) && Character.isLetter(word.charAt(word.length() - 1));
            Pattern shape = Pattern.compile(letters ? "\\b" + word + "\\b" : Pattern.quote(word));
            Due.due(word, shape.matcher(code).find() ? 1 : 0, 0);
        }
        methodsAreShort(text);
    }

    private static void methodsAreShort(String text) {
        Matcher head = Pattern.compile("(?m)^( {4}| {8})[a-z][\\w\\[\\]<> ]* \\w+\\([^)]*\\) \\{$").matcher(text);
        int found = 0;
        while (head.find()) {
            int end = text.indexOf("\n" + head.group(1) + "}\n", head.start());
            long lines = text.substring(head.start(), end).lines().count() + 1;
            Due.due(head.group().strip() + " has " + lines + " lines", lines <= 60 ? 1 : 0, 1);
            found++;
        }
        Due.due("methods were found", found > 100 ? 1 : 0, 1);
    }
}
