import java.lang.reflect.Field;
import java.lang.reflect.Method;
import java.lang.reflect.Modifier;
import java.nio.file.Files;
import java.nio.file.Path;
import java.util.ArrayList;
import java.util.Arrays;
import java.util.List;
import java.util.Set;
import java.util.TreeSet;
import java.util.regex.Matcher;
import java.util.regex.Pattern;

/** What of LANGUAGE.md can be seen by looking for words and by counting; the program's path is the first argument. */
public final class LanguageTest {
    private static final Check CHECK = new Check("LanguageTest");
    private static final Pattern METHOD = Pattern.compile("(?sm)^( {4,8})(?! )[^\n;=]*\\) \\{\n.*?^\\1\\}$");
    private static final Set<Class<?>> STATIC_TYPES = Set.of(int.class, long.class, boolean.class, char.class,
        String.class, int[].class, long[].class, char[].class, byte[].class);

    public static void main(String[] args) throws Exception {
        String path = args.length > 0 ? args[0] : "src/main/java/DesertTown.java";
        String source = Files.readString(Path.of(path));
        String code = source.replaceAll("(?s)/\\*.*?\\*/", "").replaceAll("//[^\n]*", "").replaceAll("\"[^\"\n]*\"", "\"\"");
        wordsRuledOut(code);
        for (int p = 0; p < source.length(); p++) {
            if (source.charAt(p) > 126) {
                CHECK.due("the character at " + p, source.charAt(p), 126);
            }
        }
        lengthsOfMethods(source);
        List<Class<?>> classes = new ArrayList<>(Arrays.asList(DesertTown.class.getDeclaredClasses()));
        classes.add(DesertTown.class);
        CHECK.due("twelve classes at most, not " + classes.size(), classes.size() <= 12, true);
        for (Class<?> one : classes) {
            fields(one);
            methods(one);
        }
        CHECK.finish();
    }

    private static void wordsRuledOut(String code) {
        String[] ruledOut = {"\\b(package|throw|throws|try|catch|synchronized|assert|transient|volatile|native)\\b",
            "->", "::", "\\w+Exact\\b", "\\b(System|Thread|Runtime|Random|Object)\\b", "\\bjava\\.", "\\bimport\\b",
            "\\bstatic\\s*\\{", "\"\\s*\\+", "\\+\\s*\"", "\\bhashCode\\b", "\\btoString\\b", "@\\w+"};
        for (String pattern : ruledOut) {
            Matcher matcher = Pattern.compile(pattern).matcher(code);
            CHECK.due("looking for " + pattern, matcher.find(), false);
        }
    }

    private static void lengthsOfMethods(String source) {
        Matcher matcher = METHOD.matcher(source);
        int found = 0;
        while (matcher.find()) {
            String method = matcher.group();
            long lines = method.lines().count();
            CHECK.due("sixty lines at most, not " + lines + ": " + method.lines().findFirst().get(), lines <= 60, true);
            found++;
        }
        CHECK.due("methods are found, " + found, found >= 17, true);
    }

    private static void fields(Class<?> one) {
        int own = 0;
        for (Field field : one.getDeclaredFields()) {
            String name = one.getSimpleName() + "." + field.getName();
            if (Modifier.isStatic(field.getModifiers())) {
                CHECK.due(name + " is final", Modifier.isFinal(field.getModifiers()), true);
                CHECK.due(name + " is of a constant's type", STATIC_TYPES.contains(field.getType()), true);
            } else {
                own++;
            }
        }
        CHECK.due("twenty fields at most in " + one.getSimpleName() + ", not " + own, own <= 20, true);
    }

    private static void methods(Class<?> one) {
        Set<String> face = new TreeSet<>();
        for (Method method : DesertTown.class.getDeclaredMethods()) {
            if (Modifier.isPublic(method.getModifiers())) {
                face.add(method.getName());
            }
        }
        for (Method method : one.getDeclaredMethods()) {
            String name = one.getSimpleName() + "." + method.getName();
            CHECK.due(name + " takes seven at most", method.getParameterCount() <= 7, true);
            if (one != DesertTown.class || !Modifier.isPublic(method.getModifiers())) {
                CHECK.due(name + " is a name of its own", face.contains(method.getName()), false);
            }
        }
    }
}
