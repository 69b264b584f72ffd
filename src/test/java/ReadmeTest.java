import java.lang.reflect.Method;
import java.lang.reflect.Modifier;
import java.nio.file.Files;
import java.nio.file.Path;
import java.util.Set;
import java.util.TreeSet;
import java.util.regex.Matcher;
import java.util.regex.Pattern;

/** What README.md shows is so: the answers of its calls, and that it names every call of the face. */
public final class ReadmeTest {
    private static final Pattern CALL = Pattern.compile("^x\\.(\\w+)\\(([^)]*)\\);\\s*// (-?\\d+)\\b.*$");
    private static int wrong;

    public static void main(String[] args) throws Exception {
        String text = Files.readString(Path.of("README.md"));
        int shown = answers(text);
        if (shown < 8) {
            wrong++;
            System.out.println("only " + shown + " calls are shown with their answers");
        }
        names(text);
        System.out.println(shown + " calls shown, " + wrong + " wrong");
        if (wrong != 0) {
            System.exit(1);
        }
    }

    private static int answers(String text) throws Exception {
        GatheredPoints x = new GatheredPoints();
        int shown = 0;
        for (String row : text.split("\n")) {
            if (!row.startsWith("x.")) {
                continue;
            }
            Matcher call = CALL.matcher(row);
            if (!call.matches()) {
                wrong++;
                System.out.println("no answer is shown: " + row);
                continue;
            }
            shown++;
            long got = made(x, call.group(1), call.group(2));
            if (got != Long.parseLong(call.group(3))) {
                wrong++;
                System.out.println(row + " answers " + got);
            }
        }
        return shown;
    }

    private static long made(GatheredPoints x, String name, String arguments) throws Exception {
        String[] given = arguments.isBlank() ? new String[0] : arguments.split(",");
        for (Method method : GatheredPoints.class.getDeclaredMethods()) {
            if (method.getName().equals(name)) {
                Object[] values = new Object[given.length];
                for (int k = 0; k < given.length; k++) {
                    long value = Long.decode(given[k].trim().replace("L", ""));
                    if (method.getParameterTypes()[k] == long.class) {
                        values[k] = value;
                    } else {
                        values[k] = (int) value;
                    }
                }
                return (Integer) method.invoke(x, values);
            }
        }
        throw new IllegalArgumentException("README.md calls " + name);
    }

    private static void names(String text) {
        Set<String> missing = new TreeSet<>();
        for (Method method : GatheredPoints.class.getDeclaredMethods()) {
            boolean face = Modifier.isPublic(method.getModifiers());
            if (face && !text.contains("`" + method.getName() + "(")) {
                missing.add(method.getName());
            }
        }
        if (!missing.isEmpty()) {
            wrong++;
            System.out.println("README.md doesn't name " + missing);
        }
    }
}
