import java.io.IOException;
import java.io.UncheckedIOException;
import java.nio.file.Files;
import java.nio.file.Path;
import java.util.LinkedHashMap;
import java.util.Map;
import java.util.regex.Matcher;
import java.util.regex.Pattern;

/**
 * One test for each sentence of the document: the heading, term or promise that the sentence stands
 * under, its words, and what it asks. The words must stand there; at the end none may be left
 * without one.
 */
final class Sentence {
    private static final String DOC = textOf(Path.of("../shared/DOC.md"));
    private static final Map<String, Section> SECTIONS = new LinkedHashMap<>();
    private static final char[] REST = DOC.toCharArray();
    private static int tests = 0;
    private static int broken = 0;

    static {
        sections();
    }

    private Sentence() {
    }

    static void holds(String where, String words, Runnable test) {
        int wrong = Due.wrongSoFar();
        int asked = Due.askedSoFar();
        Due.within(where + ", \"" + words + "\"");
        Section section = SECTIONS.get(where);
        Due.holds("the document says so", section != null && section.quote(words));
        test.run();
        Due.holds("more is asked than the words", Due.askedSoFar() > asked + 1);
        tests++;
        broken += Due.wrongSoFar() > wrong ? 1 : 0;
    }

    static void everyOneHasATest() {
        Due.within("the document");
        Due.is("sections", SECTIONS.size(), 3 + 5 + 4 + 2 * 28);
        Due.is("words that stand in no section", wordsOutside(), "");
        for (Map.Entry<String, Section> one : SECTIONS.entrySet()) {
            Due.is(one.getKey() + " has words without a test", one.getValue().notQuoted(), "");
        }
        System.out.println(tests + " sentences, " + broken + " broken");
    }

    private static String textOf(Path path) {
        try {
            return Files.readString(path);
        } catch (IOException e) {
            throw new UncheckedIOException(e);
        }
    }

    /**
     * By their names: "What it is", "The public face", the limit of calls as "Calls", "Terms 1" to
     * "Terms 5", the interface's names of calls as "Ahead of counters" and on, "Call 1" to "Call 28"
     * (a promise's heading and call), "Promise 1" to "Promise 28" (its words).
     */
    private static void sections() {
        put("", "(?sm)^## (?<name>What it is)\\s+(?<words>.*?)(?=^An object)");
        put("Calls", "(?m)^(?<name>)(?<words>An object is used for at most .*)$");
        put("", "(?sm)^## (?<name>The public face)\\s+(?<words>.*?)(?=^## )");
        put("Terms ", "(?sm)^======== (?<name>\\d) (?<words>.*?)(?=^========|^Ahead of)");
        put("Ahead of ", "(?m)^(?<words>Ahead of the calls .*: ---- (?<name>.*)\\.)$");
        put("Call ", "(?m)^## Promise (?<name>\\d+): (?<words>.*\\s+`[^`]*`):");
        put("Promise ",
            "(?sm)^## Promise (?<name>\\d+):[^\n]*\\s+`[^`]*`:(?<words>.*?)(?=^## )");
    }

    private static void put(String kind, String pattern) {
        Matcher found = Pattern.compile(pattern).matcher(DOC);
        while (found.find()) {
            SECTIONS.put(kind + found.group("name"), new Section(found.group("words")));
            takeOut(found.start("words"), found.end("words"));
        }
    }

    private static void takeOut(int from, int end) {
        for (int i = from; i < end; i++) {
            REST[i] = REST[i] == '\n' ? '\n' : ' ';
        }
    }

    /** What no section has, but for the headings and what is not promised. */
    private static String wordsOutside() {
        String rest = new String(REST)
            .replaceAll("(?sm)^## Not promised.*", "")
            .replaceAll("(?m)^# TagTower$|^## (What it is|The public face|Terms)$", "")
            .replaceAll("(?m)^======== \\d |^## Promise \\d+: ", "");
        return onlyWords(rest);
    }

    private static String onlyWords(String text) {
        return text.replaceAll("[^A-Za-z0-9]+", " ").trim();
    }

    /** The words under one heading, and which of them a test has quoted. */
    private static final class Section {
        private final String text;
        private final boolean[] quoted;

        Section(String raw) {
            text = raw.replaceAll("```(text|java)?", " ").replaceAll("\\s+", " ").trim();
            quoted = new boolean[text.length()];
        }

        boolean quote(String words) {
            int from = text.indexOf(words);
            while (from >= 0 && quoted[from] && text.indexOf(words, from + 1) >= 0) {
                from = text.indexOf(words, from + 1);
            }
            for (int i = Math.max(from, 0); i < from + words.length(); i++) {
                quoted[i] = true;
            }
            return from >= 0;
        }

        String notQuoted() {
            StringBuilder rest = new StringBuilder();
            for (int i = 0; i < text.length(); i++) {
                rest.append(quoted[i] ? ' ' : text.charAt(i));
            }
            return onlyWords(rest.toString());
        }
    }
}
