import java.io.IOException;
import java.nio.file.Files;
import java.nio.file.Path;
import java.util.HashSet;
import java.util.Set;
import java.util.regex.Matcher;
import java.util.regex.Pattern;

/** What can be seen of the rules of LANGUAGE.md in the program's own text. Runs from the project's folder. */
public final class LanguageTest {
    private static final Due DUE = new Due("LanguageTest");

    public static void main(String[] args) throws IOException {
        String source = Files.readString(Path.of("src/main/java/TheLiningsInIt.java"));
        String code = source.replaceAll("(?s)/\\*.*?\\*/", "").replaceAll("//[^\n]*", "")
                .replaceAll("\"[^\"\n]*\"", "\"\"");
        String[] never = {"\\b(throw|try|catch|synchronized|assert|package|goto|native|var)\\b", "->", "::",
            "Exact\\b", "\\bSystem\\.(?!arraycopy)", "\\bMath\\.(?!max|min|abs|floor)", "@", "\\bObject\\b",
            "\\b(equals|hashCode|toString)\\b", "\\bprotected\\b", "\\bThread\\b", "\"\\s*\\+|\\+\\s*\"",
            "Arrays\\.fill\\([^;]*(true|false)\\)"};
        for (String word : never) {
            DUE.is("no " + word, Pattern.compile(word).matcher(code).find() ? 1 : 0, 0);
        }
        DUE.is("signs of 1 to 127", source.chars().allMatch(c -> c > 0 && c < 128) ? 1 : 0, 1);
        Matcher imports = Pattern.compile("import ([^;]*);").matcher(code);
        while (imports.find()) {
            DUE.is("import " + imports.group(1), imports.group(1).equals("java.util.Arrays") ? 1 : 0, 1);
        }
        DUE.is("classes", count("\\bclass \\w", code) <= 12 ? 1 : 0, 1);
        DUE.is("a static field is final", count("\\bstatic (?!final)[\\w\\[\\]]+ \\w+ *[=;]", code), 0);
        namesOfThePublic(code);
        lengths(source);
        DUE.end();
    }

    private static int count(String words, String code) {
        Matcher matcher = Pattern.compile(words).matcher(code);
        int count = 0;
        while (matcher.find()) {
            count++;
        }
        return count;
    }

    private static void namesOfThePublic(String code) {
        Set<String> names = new HashSet<>();
        Matcher open = Pattern.compile("public (?:int|long) (\\w+)\\(").matcher(code);
        while (open.find()) {
            DUE.is("once: " + open.group(1), names.add(open.group(1)) ? 1 : 0, 1);
        }
        DUE.is("methods of the face", names.size(), 38);
        Matcher others = Pattern.compile("\n +(?:private )?(?:static )?[\\w\\[\\]]+ (\\w+)\\([^\n]*\\{").matcher(code);
        while (others.find()) {
            DUE.is("no name of a public one: " + others.group(1), names.contains(others.group(1)) ? 1 : 0, 0);
        }
    }

    private static void lengths(String source) {
        Matcher methods = Pattern.compile("(?s)\n( +)[\\w \\[\\]]+\\([^;{]*\\) \\{\n(.*?)\n\\1\\}").matcher(source);
        while (methods.find()) {
            DUE.is("sixty lines of a method", methods.group(2).lines().count() <= 60 ? 1 : 0, 1);
        }
    }
}
