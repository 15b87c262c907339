import java.io.IOException;
import java.nio.file.Files;
import java.nio.file.Path;
import java.util.Arrays;
import java.util.Set;
import java.util.TreeSet;
import java.util.regex.Matcher;
import java.util.regex.Pattern;

/** What ../shared/LANGUAGE.md rules out, as far as words show it. */
public final class LanguageTest {
    private static final String[] RULED_OUT = {
        "import", "package", "throw", "throws", "try", "catch", "finally", "synchronized", "assert",
        "yield", "var", "System.out", "Object", "protected", "volatile", "native", "this"
    };
    private static final Set<String> LIBRARY = new TreeSet<>(Arrays.asList(
        "Math.max", "Math.min", "text.length", "text.charAt", "SIGNS.indexOf"));

    public static void main(String[] args) throws IOException {
        String source = Files.readString(Path.of("src/main/java/TagTower.java"));
        String code = source.replaceAll("(?s)/\\*.*?\\*/", " ").replaceAll("//[^\n]*", " ");
        signs(code);
        code = code.replaceAll("\"[^\"\n]*\"", "TEXT").replaceAll("'[^'\n]'", "SIGN");
        for (String word : RULED_OUT) {
            Due.is(word, Pattern.compile("\\b" + Pattern.quote(word) + "\\b").matcher(code).find() ? 1 : 0, 0);
        }
        for (String mark : new String[] {"->", "::", "@", "TEXT +", "+ TEXT", "+ SIGN", "SIGN +"}) {
            Due.is(mark, code.contains(mark) ? 1 : 0, 0);
        }
        Due.is("public classes", many(code, "\\bpublic\\s+final\\s+class\\b"), 1);
        Due.is("classes", many(code, "\\bclass\\b"), many(code, "\\bstatic final class\\b") + 1);
        Due.is("at most twelve classes", many(code, "\\bclass\\b") <= 12 ? 1 : 0, 1);
        library(code);
        arraysAreMadeInConstructors(code);
        methodsAreShort(code);
        Due.end();
    }

    private static int many(String code, String what) {
        Matcher found = Pattern.compile(what).matcher(code);
        int count = 0;
        while (found.find()) {
            count++;
        }
        return count;
    }

    private static void signs(String code) {
        for (int i = 0; i < code.length(); i++) {
            char c = code.charAt(i);
            if (c > 126 || c == '\t') {
                Due.is("sign " + (int) c + " at " + i, 1, 0);
            }
        }
    }

    /** Calls on a name with a big first letter or on a text are of the library. */
    private static void library(String code) {
        Matcher call = Pattern.compile("\\b([A-Z]\\w*|text)\\.(\\w+)\\(").matcher(code);
        while (call.find()) {
            String name = call.group(1) + "." + call.group(2);
            Due.is("library: " + name, LIBRARY.contains(name) ? 1 : 0, 1);
        }
    }

    private static void arraysAreMadeInConstructors(String code) {
        Matcher made = Pattern.compile("(?m)^(.*)\\bnew\\b").matcher(code);
        while (made.find()) {
            Due.is("made once for each object: " + made.group(1).trim(),
                made.group(1).matches(" +private final .*= *| +[a-zA-Z]+ = ") ? 1 : 0, 1);
        }
    }

    private static void methodsAreShort(String code) {
        int since = 0;
        int number = 0;
        for (String line : code.split("\n")) {
            number++;
            if (line.matches(" {4}(?: {4})?[a-zA-Z].*\\) \\{")) {
                since = number;
            }
            if (line.matches(" {4}(?: {4})?\\}")) {
                Due.is("a method that ends in line " + number, number - since <= 60 || since == 0 ? 1 : 0, 1);
                since = 0;
            }
        }
    }
}
