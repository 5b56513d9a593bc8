import java.io.IOException;
import java.lang.reflect.Constructor;
import java.lang.reflect.Field;
import java.lang.reflect.Method;
import java.lang.reflect.Modifier;
import java.nio.file.Files;
import java.nio.file.Path;
import java.util.HashSet;
import java.util.Set;
import java.util.TreeSet;
import java.util.regex.Matcher;
import java.util.regex.Pattern;

/** The public face is the document's and no more; the source keeps to those rules that can be seen in it. */
public final class FaceTest {
    private static final Path SOURCE = Path.of("src/main/java/WorldHall.java");
    private static final Path DOCUMENT = Path.of("../shared/DOC.md");
    private static final String[] OUTSIDE = {"throw", "throws", "try", "catch", "synchronized", "assert", "import", "->", "::",
        "System.", "Exact", "protected", "Random", "Thread", "hashCode", "toString", "List", "float", "double"};
    private static int wrong = 0;

    public static void main(String[] args) throws IOException {
        face();
        constants();
        members();
        source();
        System.out.println(wrong == 0 ? "the face and the source are as due" : wrong + " things are not as due");
        if (wrong != 0) {
            System.exit(1);
        }
    }

    private static void say(String what) {
        wrong++;
        System.out.println(what);
    }

    private static void face() throws IOException {
        Set<String> due = new TreeSet<>();
        Matcher lines = Pattern.compile("    public int (\\w+)\\(([^)]*)\\);").matcher(Files.readString(DOCUMENT));
        while (lines.find()) {
            due.add(lines.group(1) + "(" + lines.group(2).replaceAll("(\\w+) \\w+", "$1") + ")");
        }
        Set<String> are = new TreeSet<>();
        for (Method method : WorldHall.class.getDeclaredMethods()) {
            if (!Modifier.isPrivate(method.getModifiers())) {
                StringBuilder types = new StringBuilder();
                for (Class<?> type : method.getParameterTypes()) {
                    types.append(types.length() > 0 ? ", " : "").append(type.getName());
                }
                are.add(method.getName() + "(" + types + ")");
                if (method.getReturnType() != int.class || Modifier.isStatic(method.getModifiers())) {
                    say(method + " is not as in the document");
                }
            }
        }
        if (due.size() != 33 || !due.equals(are)) {
            say("methods are " + are + ", due are " + due);
        }
        Constructor<?>[] made = WorldHall.class.getDeclaredConstructors();
        if (made.length != 1 || !Modifier.isPublic(made[0].getModifiers()) || made[0].getParameterCount() != 2) {
            say("the constructor is not the document's");
        }
    }

    private static void constants() {
        int[] are = {WorldHall.NONE, WorldHall.BAD, WorldHall.STATE, WorldHall.FULL};
        for (int i = 0; i < are.length; i++) {
            if (are[i] != -1 - i) {
                say("constant " + i + " is " + are[i]);
            }
        }
        int shown = 0;
        for (Field field : WorldHall.class.getDeclaredFields()) {
            shown += Modifier.isPrivate(field.getModifiers()) ? 0 : 1;
        }
        if (shown != are.length) {
            say(shown + " fields can be seen");
        }
    }

    private static void members() {
        Set<String> open = new HashSet<>();
        for (Method method : WorldHall.class.getDeclaredMethods()) {
            if (Modifier.isPublic(method.getModifiers())) {
                open.add(method.getName());
            }
        }
        Class<?>[] inside = WorldHall.class.getDeclaredClasses();
        if (inside.length > 11 || !Modifier.isFinal(WorldHall.class.getModifiers())) {
            say("the classes are not as due");
        }
        for (Class<?> one : inside) {
            if (!Modifier.isStatic(one.getModifiers()) || !Modifier.isPrivate(one.getModifiers())) {
                say(one + " is not private and static");
            }
            check(one, open);
        }
        for (Method method : WorldHall.class.getDeclaredMethods()) {
            if (Modifier.isPrivate(method.getModifiers()) && open.contains(method.getName())) {
                say(method + " bears the name of a public one");
            }
        }
    }

    private static void check(Class<?> one, Set<String> open) {
        for (Method method : one.getDeclaredMethods()) {
            if (open.contains(method.getName()) || method.getParameterCount() > 7) {
                say(method + " bears the name of a public one, or takes too much");
            }
        }
        int fields = 0;
        for (Field field : one.getDeclaredFields()) {
            if (!Modifier.isStatic(field.getModifiers())) {
                fields++;
            } else if (!Modifier.isFinal(field.getModifiers())) {
                say(field + " is static and not final");
            }
        }
        if (fields > 20) {
            say(one + " has " + fields + " fields");
        }
    }

    private static void source() throws IOException {
        String text = Files.readString(SOURCE).replaceAll("(?s)/\\*.*?\\*/", "").replaceAll("//[^\n]*", "");
        for (String word : OUTSIDE) {
            String sought = Character.isLetter(word.charAt(0)) ? "\\b" + Pattern.quote(word) : Pattern.quote(word);
            if (Pattern.compile(sought).matcher(text).find()) {
                say("the source has " + word);
            }
        }
        String[] methods = text.split("\n\n");
        for (String method : methods) {
            if (method.lines().count() > 60) {
                say("too long: " + method.lines().findFirst().orElse(""));
            }
        }
    }
}
