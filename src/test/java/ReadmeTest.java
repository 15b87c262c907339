import java.io.File;
import java.io.IOException;
import java.lang.reflect.InvocationTargetException;
import java.lang.reflect.Method;
import java.nio.file.Files;
import java.nio.file.Path;
import java.util.ArrayList;
import java.util.Arrays;
import java.util.Comparator;
import java.util.List;
import java.util.Set;
import java.util.TreeSet;
import java.util.regex.Matcher;
import java.util.regex.Pattern;
import java.util.stream.Stream;

/** README.md says what is so: its example, what it says of the methods, and its commands. */
public final class ReadmeTest {
    private static final Pattern CALL =
        Pattern.compile("x\\.(\\w+)\\(([^)]*)\\);\\s*// (-?\\d+|BAD|STATE|FULL|NONE)(?:: .*)?");
    private static final Pattern ROW =
        Pattern.compile("(?m)^\\| `(\\w+)\\(([^)]*)\\)` \\| (.*) \\| (.*?) ?\\|$");

    public static void main(String[] args) throws IOException {
        String page = Files.readString(Path.of("README.md"));
        String doc = Files.readString(Path.of("../shared/DOC.md"));
        example(blocks(page, "java"));
        constants(page);
        methods(page, doc);
        commands(blocks(page, "sh"));
        Due.end();
    }

    /** What stands between the fences of that kind. */
    private static List<String> blocks(String page, String kind) {
        List<String> all = new ArrayList<>();
        Matcher found = Pattern.compile("(?sm)^```" + kind + "\n(.*?)^```$").matcher(page);
        while (found.find()) {
            all.add(found.group(1));
        }
        return all;
    }

    /**
     * Each answer of the example is the one that TagTower gives, and the one that is due: PlainTower
     * does what the document says, word by word.
     */
    private static void example(List<String> examples) {
        Due.is("examples", examples.size(), 1);
        for (String text : examples) {
            TagTower tower = new TagTower();
            PlainTower plain = new PlainTower();
            Set<String> refused = new TreeSet<>();
            for (String line : text.split("\n")) {
                Matcher call = CALL.matcher(line);
                if (call.matches()) {
                    Due.within("README.md, " + line);
                    int told = number(call.group(3));
                    Due.is("TagTower", answer(tower, call.group(1), call.group(2)), told);
                    Due.is("the document", answer(plain, call.group(1), call.group(2)), told);
                    refused.add(call.group(3).replaceAll("-?\\d+", ""));
                } else {
                    Due.within("README.md");
                    Due.holds("the example's line tells a call and its answer: " + line,
                        line.isBlank() || line.startsWith("// ")
                            || line.equals("TagTower x = new TagTower();"));
                }
            }
            Due.within("README.md");
            Due.is("what the example shows", refused.toString(), "[, BAD, FULL, NONE, STATE]");
        }
    }

    private static int number(String told) {
        switch (told) {
            case "BAD": return TagTower.BAD;
            case "STATE": return TagTower.STATE;
            case "FULL": return TagTower.FULL;
            case "NONE": return TagTower.NONE;
            default: return Integer.parseInt(told);
        }
    }

    private static int answer(Object of, String name, String given) {
        String[] texts = given.isBlank() ? new String[0] : given.split(", ");
        Object[] numbers = new Object[texts.length];
        Class<?>[] types = new Class<?>[texts.length];
        for (int i = 0; i < texts.length; i++) {
            numbers[i] = Integer.valueOf(texts[i]);
            types[i] = int.class;
        }
        try {
            Method method = of.getClass().getDeclaredMethod(name, types);
            return (Integer) method.invoke(of, numbers);
        } catch (NoSuchMethodException | IllegalAccessException | InvocationTargetException e) {
            throw new IllegalStateException(name + "(" + given + ")", e);
        }
    }

    private static void constants(String page) {
        Due.within("README.md, refusals");
        String[] names = {"BAD", "STATE", "FULL", "NONE"};
        for (String name : names) {
            String kind = name.equals("NONE") ? "an answer, no refusal: " : "a refusal: ";
            Due.holds(name + " is told with its number and what it is",
                page.contains("\n| `" + name + "` | " + number(name) + " | " + kind));
        }
    }

    /** The table has all methods of the document's face, in its order, and refuses as it does. */
    private static void methods(String page, String doc) {
        Due.within("README.md, the methods");
        List<String> told = new ArrayList<>();
        Matcher row = ROW.matcher(page);
        while (row.find()) {
            told.add(row.group(1) + "(" + row.group(2) + ")");
            String promise = promiseOf(row.group(1), doc);
            Due.is("refusals of " + row.group(1), row.group(4), refusalsOf(promise));
            Due.is(row.group(1) + " tells of NONE", row.group(3).contains("NONE") ? 1 : 0,
                promise.contains("NONE") ? 1 : 0);
        }
        List<String> due = new ArrayList<>();
        Matcher face = Pattern.compile("(?m)^    public int (\\w+)\\((.*)\\);$").matcher(doc);
        while (face.find()) {
            due.add(face.group(1) + "(" + face.group(2).replace("int ", "") + ")");
        }
        Due.is("methods", told.toString(), due.toString());
        Due.is("methods", told.size(), 27);
    }

    private static String promiseOf(String name, String doc) {
        Matcher found = Pattern.compile("(?sm)^## Promise \\d+: " + name + "\n(.*?)^## ").matcher(doc);
        return found.find() ? found.group(1) : "";
    }

    private static String refusalsOf(String promise) {
        StringBuilder all = new StringBuilder();
        Matcher found = Pattern.compile("\\b(BAD|STATE|FULL)\\b").matcher(promise);
        while (found.find()) {
            all.append(all.length() == 0 ? "" : ", ").append(found.group(1));
        }
        return all.toString();
    }

    /** All commands but .ci/run, which runs this test; what they make goes elsewhere than out/. */
    private static void commands(List<String> blocks) throws IOException {
        Due.within("README.md, the commands");
        Due.is("blocks", blocks.size(), 4);
        Due.holds(".ci/run is told", blocks.contains(".ci/run\n"));
        Path out = Files.createTempDirectory("readme");
        try {
            for (String block : blocks) {
                if (!block.equals(".ci/run\n")) {
                    Due.is(block, run(block.replace(" out/", " " + out + "/")), 0);
                }
            }
            Due.holds("the class is compiled", Files.exists(out.resolve("class/TagTower.class")));
        } finally {
            forget(out);
        }
    }

    private static int run(String block) throws IOException {
        Process shell = new ProcessBuilder(Arrays.asList("sh", "-e", "-c", block))
            .redirectErrorStream(true)
            .redirectOutput(ProcessBuilder.Redirect.INHERIT)
            .start();
        try {
            return shell.waitFor();
        } catch (InterruptedException e) {
            throw new IllegalStateException(e);
        }
    }

    private static void forget(Path made) throws IOException {
        try (Stream<Path> all = Files.walk(made)) {
            all.sorted(Comparator.reverseOrder()).map(Path::toFile).forEach(File::delete);
        }
    }
}
