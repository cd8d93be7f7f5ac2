import java.lang.reflect.Method;
import java.lang.reflect.Modifier;
import java.nio.file.Files;
import java.nio.file.Path;
import java.util.Set;
import java.util.TreeSet;
import java.util.regex.Matcher;
import java.util.regex.Pattern;

/** README.md is tested as well: a call that it shows answers as it says there, and it has every call of the face. */
public final class ReadmeTest {
    private static final Pattern SHOWN = Pattern.compile("(?m)^desk\\.(\\w+)\\(([^)]*)\\);(.*)$");
    private static final Pattern ANSWER = Pattern.compile("\\s*// (-?\\d+|true|false)(:.*)?");
    private static final Pattern ROW = Pattern.compile("(?m)^\\| `(\\w+)\\(([^)]*)\\)` \\|");

    public static void main(String[] args) throws Exception {
        Check check = new Check();
        String readme = Files.readString(Path.of("README.md"));
        example(check, readme);
        calls(check, readme);
        check.end();
    }

    private static void example(Check check, String readme) throws Exception {
        GleePrize desk = new GleePrize();
        Matcher shown = SHOWN.matcher(readme);
        while (shown.find()) {
            Matcher answer = ANSWER.matcher(shown.group(3));
            String call = shown.group(1) + "(" + shown.group(2) + ")";
            check.due("README.md says what " + call + " answers", answer.matches(), true);
            if (answer.matches()) {
                check.due(call, number(ask(desk, shown.group(1), shown.group(2))), number(answer.group(1)));
            }
        }
    }

    private static Object ask(GleePrize desk, String name, String list) throws Exception {
        String[] written = list.isEmpty() ? new String[0] : list.split(", ");
        Method method = findMethod(name, written.length);
        Object[] arguments = new Object[written.length];
        for (int i = 0; i < written.length; i++) {
            long value = number(written[i]);
            if (method.getParameterTypes()[i] == int.class) {
                arguments[i] = (int) value;
            } else {
                arguments[i] = value;
            }
        }
        return method.invoke(desk, arguments);
    }

    private static Method findMethod(String name, int parameters) {
        for (Method method : GleePrize.class.getDeclaredMethods()) {
            if (method.getName().equals(name) && method.getParameterCount() == parameters) {
                return method;
            }
        }
        throw new IllegalStateException("README.md shows " + name + " with " + parameters + " arguments");
    }

    private static long number(Object value) {
        String text = value.toString();
        if (text.equals("true") || text.equals("false")) {
            return text.equals("true") ? 1 : 0;
        }
        if (text.equals("GleePrize.NONE")) {
            return GleePrize.NONE;
        }
        return text.startsWith("0b") ? Long.parseLong(text.substring(2), 2) : Long.decode(text);
    }

    /** The tables have each call of the face once, with as many arguments. */
    private static void calls(Check check, String readme) {
        Set<String> told = new TreeSet<>();
        Matcher row = ROW.matcher(readme);
        while (row.find()) {
            int parameters = row.group(2).isEmpty() ? 0 : row.group(2).split(", ").length;
            check.due(row.group(1) + " stands once in the tables", told.add(row.group(1) + "/" + parameters), true);
        }
        Set<String> face = new TreeSet<>();
        for (Method method : GleePrize.class.getDeclaredMethods()) {
            if (Modifier.isPublic(method.getModifiers())) {
                face.add(method.getName() + "/" + method.getParameterCount());
            }
        }
        check.due("the tables have " + told + " and the face " + face, told.equals(face), true);
    }
}
