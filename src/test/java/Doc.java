import java.nio.file.Files;
import java.nio.file.Path;
import java.util.ArrayList;
import java.util.BitSet;
import java.util.List;
import java.util.Map;
import java.util.TreeMap;
import java.util.regex.Matcher;
import java.util.regex.Pattern;

/** The document's own words by their sections, and which of them no test has quoted yet. */
final class Doc {
    static final String TERMS = "Terms";
    static final String LIMITS = "What it is";

    private final Map<String, String> sections = new TreeMap<>();
    private final Map<String, BitSet> quoted = new TreeMap<>();

    Doc(Path path) throws java.io.IOException {
        String text = Files.readString(path);
        keep(LIMITS, between(text, "An object is used", "## The public face"));
        keep(TERMS, between(text, "==== 1", "Ahead of the calls"));
        Matcher head = Pattern.compile("(?s)## Promise (\\d+): [^\\n]*\\n\\s*`[^`]*`: (.*?)(?=\\n## )").matcher(text);
        while (head.find()) {
            keep("Promise " + head.group(1), head.group(2));
        }
    }

    private static String between(String text, String first, String behind) {
        int from = text.indexOf(first);
        int to = text.indexOf(behind, Math.max(0, from));
        return from < 0 || to < 0 ? "" : text.substring(from, to);
    }

    private void keep(String section, String words) {
        String plain = words.replaceAll("```\\w*|==== \\d", " ").replaceAll("\\s+", " ").trim();
        sections.put(section, plain);
        quoted.put(section, new BitSet());
    }

    int promises() {
        return (int) sections.keySet().stream().filter(s -> s.startsWith("Promise ")).count();
    }

    /** Whether these words stand in that section; they are quoted then. */
    boolean quote(String section, String words) {
        String text = sections.getOrDefault(section, "");
        boolean found = false;
        for (int at = text.indexOf(words); at >= 0; at = text.indexOf(words, at + 1)) {
            quoted.get(section).set(at, at + words.length());
            found = true;
        }
        return found;
    }

    /** What stands in the sections that no quotation has told, but for signs between words. */
    List<String> unquoted() {
        List<String> left = new ArrayList<>();
        for (Map.Entry<String, String> e : sections.entrySet()) {
            BitSet told = quoted.get(e.getKey());
            String text = e.getValue();
            for (int at = told.nextClearBit(0); at < text.length(); at = told.nextClearBit(at)) {
                int end = told.nextSetBit(at) < 0 ? text.length() : told.nextSetBit(at);
                String words = text.substring(at, end);
                if (words.matches("(?s).*[A-Za-z0-9].*")) {
                    left.add(e.getKey() + ": '" + words.trim() + "'");
                }
                at = end;
            }
        }
        return left;
    }
}
