import java.util.LinkedHashSet;
import java.util.Set;
import java.util.TreeSet;
import java.util.regex.Matcher;
import java.util.regex.Pattern;

/**
 * The sentences of ../shared/DOC.md. Each boundary test names those that it is about before it checks anything; in the
 * end all sentences must have been named, and none that the document does not have.
 */
final class Doc {
    private static final Set<String> NAMED = new LinkedHashSet<>();
    private static final String USED = "An object is used for at most 512 calls after it has been made";
    private static String last = "";
    private static int doneBefore = 0;

    private Doc() {
    }

    /** What follows checks these sentences of a promise. */
    static void says(int promise, String... sentences) {
        open("Promise " + promise + ": ", sentences);
    }

    /** What follows checks these sentences of the terms. */
    static void terms(String... sentences) {
        open("Terms: ", sentences);
    }

    private static void open(String where, String... sentences) {
        close();
        for (String sentence : sentences) {
            NAMED.add(where + sentence);
        }
        last = where + sentences[0];
        doneBefore = Check.done();
        Check.about(last);
    }

    private static void close() {
        Check.about("");
        if (!last.isEmpty()) {
            Check.due(last + ": is checked", true, Check.done() > doneBefore);
        }
    }

    static void allNamed(String document) {
        close();
        Set<String> all = sentences(document);
        Check.due("sentences found in the document", true, all.size() > 250);
        Set<String> missing = new TreeSet<>(all);
        missing.removeAll(NAMED);
        Check.due("sentences without a test", Set.of(), missing);
        Set<String> strange = new TreeSet<>(NAMED);
        strange.removeAll(all);
        Check.due("tests without a sentence", Set.of(), strange);
    }

    private static Set<String> sentences(String document) {
        Set<String> all = new TreeSet<>();
        String terms = document.substring(document.indexOf("## Terms") + 8, document.indexOf("Ahead of the calls"));
        all.add("Terms: " + USED);
        Check.due("the document has this sentence", true, document.contains(USED));
        split("Terms: ", terms.replace("<p>", ""), all);
        Matcher promise = Pattern.compile("## Promise (\\d+): .*\n((?:(?!## ).*\n)*)").matcher(document);
        while (promise.find()) {
            for (String line : promise.group(2).split("\n")) {
                boolean signature = line.startsWith("`");
                String words = signature ? line.substring(line.indexOf("`: ") + 3) : line.replaceAll("^- ", "");
                split("Promise " + promise.group(1) + ": ", words, all);
            }
        }
        return all;
    }

    /** The parts between stops and semicolons, but for the headings of the terms. */
    private static void split(String where, String words, Set<String> all) {
        for (String part : words.trim().replaceAll("\\s+", " ").split("(?<=[.;]) ")) {
            String sentence = part.replaceAll("[.;]$", "");
            boolean heading = where.equals("Terms: ")
                    && sentence.matches("|\\w+|The text|Rotations, of a stable pairing");
            if (!heading && !sentence.isEmpty()) {
                all.add(where + sentence);
            }
        }
    }
}
