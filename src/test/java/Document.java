import java.io.IOException;
import java.nio.file.Files;
import java.nio.file.Path;
import java.util.ArrayList;
import java.util.List;
import java.util.Map;
import java.util.TreeMap;
import java.util.regex.Matcher;
import java.util.regex.Pattern;

/** The document by its headings; it keeps which of its words the tests have quoted. */
final class Document {
    private static final Pattern HEADING = Pattern.compile("#+ ([^:]*).*");
    /** The sections that make promises: each word there must be quoted, but for the quiet ones. */
    private static final Pattern PROMISING =
        Pattern.compile("Promise \\d+|Terms|Settings|Sheets and carbons|Pressing|Readings|Texts");
    /** A promise's signature, the fences of a block, and where in the interface a call stands. */
    private static final Pattern QUIET = Pattern.compile("^`[^`]*`:|```(?:text)?|Ahead of the calls [^.]*\\.");

    private final Map<String, String> sections = new TreeMap<>();
    private final Map<String, boolean[]> quoted = new TreeMap<>();

    Document(Path path) throws IOException {
        String heading = "";
        for (String line : Files.readAllLines(path)) {
            Matcher matcher = HEADING.matcher(line);
            if (matcher.matches()) {
                heading = matcher.group(1);
            } else {
                sections.merge(heading, line, (text, more) -> plain(text + " " + more));
            }
        }
        sections.replaceAll((name, text) -> plain(text));
        sections.forEach((name, text) -> {
            quoted.put(name, new boolean[text.length()]);
            Matcher quiet = QUIET.matcher(text);
            while (quiet.find()) {
                tick(name, quiet.start(), quiet.end());
            }
        });
    }

    private static String plain(String text) {
        return text.replaceAll("\\s+", " ").trim();
    }

    private void tick(String section, int from, int to) {
        for (int i = from; i < to; i++) {
            quoted.get(section)[i] = true;
        }
    }

    /** Returns whether the words stand in the section, once, and ticks them off. */
    boolean says(String section, String words) {
        String text = sections.getOrDefault(section, "");
        int from = text.indexOf(words);
        if (from < 0 || from != text.lastIndexOf(words)) {
            return false;
        }
        tick(section, from, from + words.length());
        return true;
    }

    /** Returns what the sections that make promises say and nobody has quoted. */
    List<String> unquoted() {
        List<String> left = new ArrayList<>();
        sections.forEach((name, text) -> {
            if (PROMISING.matcher(name).matches()) {
                StringBuilder words = new StringBuilder();
                for (int i = 0; i < text.length(); i++) {
                    words.append(quoted.get(name)[i] ? '\n' : text.charAt(i));
                }
                for (String part : words.toString().split("\n+")) {
                    if (part.matches(".*\\w.*")) {
                        left.add(name + ": " + part.trim());
                    }
                }
            }
        });
        return left;
    }
}
