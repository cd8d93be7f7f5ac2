import java.lang.reflect.Constructor;
import java.lang.reflect.Field;
import java.lang.reflect.Method;
import java.lang.reflect.Modifier;
import java.nio.file.Files;
import java.nio.file.Path;
import java.util.Arrays;
import java.util.List;
import java.util.Set;
import java.util.TreeSet;
import java.util.regex.Matcher;
import java.util.regex.Pattern;

/** The public face of the document, and the rules of LANGUAGE.md that can be read off the class or its text. */
public final class FaceTest {
    private static final Set<String> FACE = new TreeSet<>(Arrays.asList(
            "int note(int, int, int)", "int record(int, int)", "int read(int, int, int)",
            "boolean rules(int, int, int, int, int)", "int lay(int)", "int laid(int, int, int)", "int off(int, int)",
            "int told(int, int)", "int sing(int)", "boolean judge(int, int, long)", "int judges()", "int place(int)",
            "int ranks(int, int)", "int member(int, int, int, int)", "int may(int, int, int)",
            "int singers(int, int)", "int perform(int)", "int clear()", "int halls(int)", "int hours(int)",
            "int hour(int)", "int draw(int, int, int)"));

    public static void main(String[] args) throws Exception {
        Check check = new Check();
        face(check);
        fields(check);
        nested(check);
        text(check, Files.readString(Path.of("src/main/java/GleePrize.java")));
        check.end();
    }

    private static void face(Check check) {
        Set<String> found = new TreeSet<>();
        Set<String> names = new TreeSet<>();
        for (Method m : GleePrize.class.getDeclaredMethods()) {
            if (Modifier.isPublic(m.getModifiers())) {
                String types = Arrays.toString(m.getParameterTypes()).replace("[", "(").replace("]", ")");
                found.add(m.getReturnType() + " " + m.getName() + types);
                names.add(m.getName());
            } else {
                check.due(m + " is private", Modifier.isPrivate(m.getModifiers()), true);
            }
        }
        check.due("the face is " + found, found.equals(FACE), true);
        for (Class<?> c : GleePrize.class.getDeclaredClasses()) {
            for (Method m : c.getDeclaredMethods()) {
                check.due(m + " has a name of its own", names.contains(m.getName()), false);
            }
        }
        Constructor<?>[] constructors = GleePrize.class.getDeclaredConstructors();
        check.due("constructors", constructors.length, 1);
        check.due("its parameters", constructors[0].getParameterCount(), 0);
        check.due("it is public", Modifier.isPublic(constructors[0].getModifiers()), true);
        check.due("the class is final", Modifier.isFinal(GleePrize.class.getModifiers()), true);
    }

    private static void fields(Check check) {
        for (Field f : GleePrize.class.getDeclaredFields()) {
            boolean isNone = f.getName().equals("NONE");
            check.due(f + " is public", Modifier.isPublic(f.getModifiers()), isNone);
            check.due(f + " is private", Modifier.isPrivate(f.getModifiers()), !isNone);
        }
    }

    private static void nested(Check check) {
        Class<?>[] classes = GleePrize.class.getDeclaredClasses();
        check.due("at most twelve classes", classes.length + 1 <= 12, true);
        for (Class<?> c : classes) {
            check.due(c + " is static", Modifier.isStatic(c.getModifiers()), true);
            check.due(c + " is not public", Modifier.isPublic(c.getModifiers()), false);
            int own = 0;
            for (Field f : c.getDeclaredFields()) {
                boolean isStatic = Modifier.isStatic(f.getModifiers());
                own += isStatic ? 0 : 1;
                check.due(f + " is final if static", !isStatic || Modifier.isFinal(f.getModifiers()), true);
            }
            for (Method m : c.getDeclaredMethods()) {
                check.due(m + " has at most seven parameters", m.getParameterCount() <= 7, true);
            }
            check.due(c + " has some twenty fields", own <= 20, true);
        }
    }

    private static void text(Check check, String source) {
        String code = source.replaceAll("(?s)/\\*.*?\\*/", " ").replaceAll("//[^\n]*", " ");
        List<String> banned = Arrays.asList("throw", "throws", "try", "catch", "synchronized", "assert", "package",
                "import", "protected", "Exact\\b", "->", "::", "System", "Random", "Thread", "Object", "hashCode");
        for (String word : banned) {
            String edge = Character.isLetter(word.charAt(0)) && !word.endsWith("b") ? "\\b" : "";
            Matcher m = Pattern.compile(edge + word + edge).matcher(code);
            check.due(word + " in the class", m.find(), false);
        }
    }
}
