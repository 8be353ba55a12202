import java.nio.file.Files;
import java.nio.file.Path;
import java.util.regex.Matcher;
import java.util.regex.Pattern;

/** What of LANGUAGE.md can be seen by looking for words; the program's path is the first argument. */
public final class LanguageTest {
    private static final Check CHECK = new Check("LanguageTest");

    public static void main(String[] args) throws Exception {
        String path = args.length > 0 ? args[0] : "src/main/java/DesertTown.java";
        String source = Files.readString(Path.of(path));
        String code = source.replaceAll("(?s)/\\*.*?\\*/", "").replaceAll("//[^\n]*", "").replaceAll("\"[^\"\n]*\"", "\"\"");
        String[] ruledOut = {"\\b(package|throw|throws|try|catch|synchronized|assert|transient|volatile|native)\\b",
            "->", "::", "\\w+Exact\\b", "\\b(System|Thread|Runtime|Random|Object)\\b", "\\bjava\\.", "\\bimport\\b",
            "\\bstatic\\s*\\{", "\"\\s*\\+", "\\+\\s*\"", "\\bhashCode\\b", "\\btoString\\b", "@\\w+"};
        for (String pattern : ruledOut) {
            Matcher matcher = Pattern.compile(pattern).matcher(code);
            CHECK.due("looking for " + pattern, matcher.find(), false);
        }
        Matcher fields = Pattern.compile("\\bstatic\\s+(?!final\\b)[\\w\\[\\]]+\\s+\\w+\\s*[=;]").matcher(code);
        CHECK.due("static fields are final", fields.find(), false);
        for (int p = 0; p < source.length(); p++) {
            if (source.charAt(p) > 126) {
                CHECK.due("the character at " + p, source.charAt(p), 126);
            }
        }
        CHECK.finish();
    }
}
