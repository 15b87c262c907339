import java.io.IOException;
import java.io.UncheckedIOException;
import java.nio.file.Files;
import java.nio.file.Path;
import java.util.LinkedHashMap;
import java.util.Map;
import java.util.regex.Matcher;
import java.util.regex.Pattern;

/**
 * One test for each sentence of the document: the term or promise that the sentence stands under,
 * its words, and what it asks. The words must stand there; at the end none may be left without one.
 */
final class Sentence {
    private static final Map<String, Section> SECTIONS = read(Path.of("../shared/DOC.md"));
    private static int tests = 0;
    private static int broken = 0;

    private Sentence() {
    }

    static void holds(String where, String words, Runnable test) {
        int wrong = Due.wrongSoFar();
        int asked = Due.askedSoFar();
        Due.within(where + ", \"" + words + "\"");
        Section section = SECTIONS.get(where);
        Due.holds("the document says so", section != null && section.quote(words));
        test.run();
        Due.holds("more is asked than the words", Due.askedSoFar() > asked + 1);
        tests++;
        broken += Due.wrongSoFar() > wrong ? 1 : 0;
    }

    static void everyOneHasATest() {
        Due.within("the document");
        Due.is("terms and promises", SECTIONS.size(), 1 + 5 + 28);
        for (Map.Entry<String, Section> one : SECTIONS.entrySet()) {
            Due.is(one.getKey() + " has words without a test", one.getValue().notQuoted(), "");
        }
        System.out.println(tests + " sentences, " + broken + " broken");
    }

    /** "Terms 1" to "Terms 5", "Promise 1" to "Promise 28", and the limit of calls as "Calls". */
    private static Map<String, Section> read(Path path) {
        String doc;
        try {
            doc = Files.readString(path);
        } catch (IOException e) {
            throw new UncheckedIOException(e);
        }
        Map<String, Section> all = new LinkedHashMap<>();
        put(all, "Calls", doc, "(?m)^(An object is used for at most .*)$()");
        put(all, "Terms ", doc, "(?sm)^======== (\\d) (.*?)(?=^========|^Ahead of)");
        put(all, "Promise ", doc, "(?sm)^## Promise (\\d+):[^\n]*\n\\s*`[^`]*`:(.*?)(?=^## )");
        return all;
    }

    private static void put(Map<String, Section> all, String kind, String doc, String pattern) {
        Matcher found = Pattern.compile(pattern).matcher(doc);
        while (found.find()) {
            boolean numbered = kind.endsWith(" ");
            String name = numbered ? kind + found.group(1) : kind;
            all.put(name, new Section(numbered ? found.group(2) : found.group(1)));
        }
    }

    /** The words under one heading, and which of them a test has quoted. */
    private static final class Section {
        private final String text;
        private final boolean[] quoted;

        Section(String raw) {
            text = raw.replaceAll("```(text)?", " ").replaceAll("\\s+", " ").trim();
            quoted = new boolean[text.length()];
        }

        boolean quote(String words) {
            int from = text.indexOf(words);
            while (from >= 0 && quoted[from] && text.indexOf(words, from + 1) >= 0) {
                from = text.indexOf(words, from + 1);
            }
            for (int i = Math.max(from, 0); i < from + words.length(); i++) {
                quoted[i] = true;
            }
            return from >= 0;
        }

        String notQuoted() {
            StringBuilder rest = new StringBuilder();
            for (int i = 0; i < text.length(); i++) {
                rest.append(quoted[i] ? ' ' : text.charAt(i));
            }
            return rest.toString().replaceAll("[^A-Za-z0-9]+", " ").trim();
        }
    }
}
