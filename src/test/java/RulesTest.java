import java.lang.reflect.Constructor;
import java.lang.reflect.Field;
import java.lang.reflect.Method;
import java.lang.reflect.Modifier;
import java.nio.file.Files;
import java.nio.file.Path;
import java.util.Arrays;
import java.util.List;
import java.util.Set;
import java.util.TreeSet;
import java.util.regex.Matcher;
import java.util.regex.Pattern;

/** The face of the class, and those rules of LANGUAGE.md that can be seen in its text. */
public final class RulesTest {
    private static final String[] FACE = {
        "feed(long,int)", "game(int)", "strip(int)", "ladder(int,int)", "waits(int,int)", "join(int,int,int)",
        "negate(int,int)", "option(int,int,int,int)", "gameOf(int,int)", "order(int,int)", "compare(int,int)",
        "answer(int,int,int,int)", "reduce(int,int)", "score(int,int)", "best(int,int)", "begin(int,int)",
        "go(int,int)", "play(int)", "loose(int)", "back()", "matchOf(int)", "moved(int)", "board(int,int)",
        "sheet(int,int,int)", "put(int,int,int)", "number(int,int)", "shift(int,int,int,int,int)", "judge(int,int)",
        "seed(int)", "image()", "restore()", "count(int)", "told(int)"};
    private static int wrong;

    public static void main(String[] args) throws Exception {
        face();
        inside();
        String source = Files.readString(Path.of(args.length > 0 ? args[0] : "src/main/java/GatheredPoints.java"));
        words(bare(source));
        lengths(source);
        System.out.println(wrong + " rules broken");
        if (wrong != 0) {
            System.exit(1);
        }
    }

    private static void rule(boolean kept, String what) {
        if (!kept) {
            wrong++;
            System.out.println(what);
        }
    }

    private static void face() {
        Class<?> type = GatheredPoints.class;
        rule(Modifier.isPublic(type.getModifiers()) && Modifier.isFinal(type.getModifiers()), "public and final");
        Set<String> found = new TreeSet<>();
        for (Method method : type.getDeclaredMethods()) {
            if (Modifier.isPublic(method.getModifiers())) {
                StringBuilder name = new StringBuilder(method.getName()).append('(');
                for (Class<?> p : method.getParameterTypes()) {
                    name.append(name.charAt(name.length() - 1) == '(' ? "" : ",").append(p.getName());
                }
                found.add(name.append(')').toString());
                rule(method.getReturnType() == int.class, name + " answers an int");
            } else {
                rule(Modifier.isPrivate(method.getModifiers()), method + " is private");
            }
        }
        rule(found.equals(new TreeSet<>(Arrays.asList(FACE))), "the face is that of the document: " + found);
        for (Field field : type.getDeclaredFields()) {
            rule(Modifier.isPrivate(field.getModifiers()), field + " is private");
        }
        Constructor<?>[] made = type.getDeclaredConstructors();
        rule(made.length == 1 && Modifier.isPublic(made[0].getModifiers()), "one constructor, public");
    }

    private static void inside() {
        Set<String> names = new TreeSet<>();
        for (String call : FACE) {
            names.add(call.substring(0, call.indexOf('(')));
        }
        Class<?>[] classes = GatheredPoints.class.getDeclaredClasses();
        rule(classes.length < 12, "at most twelve classes");
        rule(fields(GatheredPoints.class) <= 20, "at most twenty fields");
        for (Class<?> type : classes) {
            int marks = type.getModifiers();
            rule(Modifier.isStatic(marks) && !Modifier.isPublic(marks) && !Modifier.isProtected(marks), type + " is static");
            rule(fields(type) <= 20, type + " has at most twenty fields");
            for (Method method : type.getDeclaredMethods()) {
                rule(!names.contains(method.getName()), method + " bears no public name");
                rule(method.getParameterCount() <= 7, method + " takes at most seven");
            }
        }
        for (Method method : GatheredPoints.class.getDeclaredMethods()) {
            rule(Modifier.isPublic(method.getModifiers()) || !names.contains(method.getName()), method + " bears no public name");
            rule(method.getParameterCount() <= 7, method + " takes at most seven");
        }
    }

    private static int fields(Class<?> type) {
        int n = 0;
        for (Field field : type.getDeclaredFields()) {
            n += Modifier.isStatic(field.getModifiers()) ? 0 : 1;
            rule(!Modifier.isStatic(field.getModifiers()) || Modifier.isFinal(field.getModifiers()), field + " is final");
        }
        return n;
    }

    /** The source without its comments. */
    private static String bare(String source) {
        return source.replaceAll("(?s)/\\*.*?\\*/", "").replaceAll("//[^\\n]*", "");
    }

    private static void words(String source) {
        List<String> refused = List.of("\\bthrow\\b", "\\bthrows\\b", "\\btry\\b", "\\bcatch\\b", "\\bsynchronized\\b", "\\bassert\\b",
                "\\bimport\\b", "\\bpackage\\b", "->", "::", "\\bvar\\b", "\\bSystem\\.(?!arraycopy)", "Exact\\b",
                "\\bequals\\b", "\\bhashCode\\b", "\\btoString\\b", "\\bThread\\b", "\\bObject\\b", "\\bdouble\\b", "\\bfloat\\b",
                "\\bstatic\\s*\\{", "\\bprotected\\b", "\"");
        for (String word : refused) {
            Matcher m = Pattern.compile(word).matcher(source);
            rule(!m.find(), "no " + word);
        }
        Matcher library = Pattern.compile("\\b(Math|Integer|Long|Arrays|System)\\.(\\w+)").matcher(source);
        Set<String> fine = Set.of("max", "min", "abs", "compare", "bitCount", "arraycopy");
        while (library.find()) {
            rule(fine.contains(library.group(2)), "not of the library: " + library.group());
        }
        for (char c : source.toCharArray()) {
            rule(c < 128, "signs are below 128");
        }
    }

    private static void lengths(String source) {
        String[] lines = source.split("\n", -1);
        int from = -1;
        String indent = "";
        for (int k = 0; k < lines.length; k++) {
            Matcher head = Pattern.compile("^( {4,8})[\\w\\[\\]<> ]+\\([^;]*\\) \\{$").matcher(lines[k]);
            if (from < 0 && head.find()) {
                from = k;
                indent = head.group(1);
            } else if (from >= 0 && lines[k].equals(indent + "}")) {
                rule(k - from < 60, "a long method at line " + (from + 1));
                from = -1;
            }
            rule(lines[k].length() <= 120, "a long line: " + (k + 1));
        }
    }
}
