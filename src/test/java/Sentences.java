import java.io.IOException;
import java.nio.file.Files;
import java.nio.file.Path;
import java.util.Map;
import java.util.TreeMap;
import java.util.regex.Matcher;
import java.util.regex.Pattern;

/**
 * The words of the document that edge tests stand for. A test quotes the words ahead of its calls; words that the
 * document does not have are a failure, and so is a promise of which some words are quoted by no test.
 */
final class Sentences {
    /** The place of the Terms among the promises. */
    static final int TERMS = 0;

    private static final Map<Integer, String> TEXTS = new TreeMap<>();
    private static final Map<Integer, boolean[]> QUOTED = new TreeMap<>();
    private static String now = "";

    private Sentences() {
    }

    static String now() {
        return now;
    }

    static void says(int promise, String words) {
        read();
        now = (promise == TERMS ? "Terms: " : "Promise " + promise + ": ") + words;
        String text = TEXTS.getOrDefault(promise, "");
        int at = text.indexOf(words);
        Checks.due("whether the document says so: " + now, at >= 0 ? 1 : 0, 1);
        boolean[] quoted = QUOTED.get(promise);
        for (int i = 0; at >= 0 && i < words.length(); i++) quoted[at + i] = true;
    }

    /** All words of a promise must have been quoted by now. */
    static void allQuoted(int promise) {
        read();
        String text = TEXTS.getOrDefault(promise, "?");
        boolean[] quoted = QUOTED.getOrDefault(promise, new boolean[text.length()]);
        StringBuilder left = new StringBuilder();
        for (int i = 0; i < text.length(); i++) left.append(quoted[i] ? ' ' : text.charAt(i));
        String words = left.toString().replaceAll("[^A-Za-z0-9]+", " ").trim();
        Checks.due("words without a test, of promise " + promise + ": '" + words + "'", words.length(), 0);
    }

    /** Headings and fences are no words. */
    private static String withoutMarks(String text) {
        return text.replaceAll("======== \\d|```text|```", "");
    }

    private static void read() {
        if (!TEXTS.isEmpty()) return;
        String doc;
        try {
            doc = Files.readString(Path.of("../shared/DOC.md"));
        } catch (IOException e) {
            throw new IllegalStateException("the document can't be read", e);
        }
        Matcher terms = Pattern.compile("(?s)## Terms\n(.*?)\nAhead of the calls").matcher(doc);
        if (terms.find()) TEXTS.put(TERMS, withoutMarks(terms.group(1)));
        Matcher promises = Pattern.compile("(?s)## Promise (\\d+): [^\n]*\n\n`[^`]*`: (.*?)\n(?=\n## |\\z)").matcher(doc);
        while (promises.find()) TEXTS.put(Integer.parseInt(promises.group(1)), promises.group(2));
        for (Map.Entry<Integer, String> e : TEXTS.entrySet()) QUOTED.put(e.getKey(), new boolean[e.getValue().length()]);
        Checks.due("texts of the document", TEXTS.size(), 45);
    }
}
