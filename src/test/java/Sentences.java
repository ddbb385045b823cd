import java.io.IOException;
import java.nio.file.Files;
import java.nio.file.Path;
import java.util.Arrays;
import java.util.LinkedHashMap;
import java.util.Map;
import java.util.function.Consumer;

/**
 * The terms and promises of the document, and the rows that belong to their sentences. Each quoted
 * sentence stands in the document and has rows; each word of the document stands in a quoted one.
 */
final class Sentences {
    private final Map<String, String> sections = new LinkedHashMap<>();
    private final Map<String, boolean[]> quoted = new LinkedHashMap<>();
    private final Due whole = new Due("SentencesTest");
    private int told;
    private int rowsTold;

    Sentences(Path document) throws IOException {
        String text = Files.readString(document);
        int end = text.indexOf("\n## Not promised");
        String terms = text.substring(text.indexOf("\n## Terms"), end);
        for (String part : terms.split("\n##+ ")) {
            int line = part.indexOf('\n');
            if (line > 0) {
                put(part.substring(0, line).replaceAll(":.*", ""), part.substring(line));
            }
        }
    }

    private void put(String heading, String text) {
        String words = text
            .replaceAll("(?m)^Ahead of the calls .*$", "")
            .replaceAll("(?m)^`[^`]*\\)`: ", "")
            .replaceAll("(?m)^- ", "")
            .replace("`", "");
        sections.put(heading, plain(words));
        quoted.put(heading, new boolean[plain(words).length()]);
    }

    private static String plain(String words) {
        return words.replaceAll("\\s+", " ").trim();
    }

    /** Quotes a sentence, or a part of one, and does its rows. */
    void tell(String heading, String words, Consumer<Due> rows) {
        Due due = new Due(heading + ", \"" + words + "\"");
        rows.accept(due);
        whole.is("rows of " + heading + ", \"" + words + "\"", due.rows() > 0 ? 1 : 0, 1);
        whole.is("wrong rows of " + heading + ", \"" + words + "\"", due.wrong(), 0);
        whole.is("\"" + words + "\" stands in " + heading, mark(heading, plain(words)), 1);
        told++;
        rowsTold += due.rows();
    }

    private int mark(String heading, String words) {
        String text = sections.getOrDefault(heading, "");
        int at = text.indexOf(words);
        int found = at >= 0 ? 1 : 0;
        while (at >= 0) {
            Arrays.fill(quoted.get(heading), at, at + words.length(), true);
            at = text.indexOf(words, at + 1);
        }
        return found;
    }

    void end() {
        for (String heading : sections.keySet()) {
            StringBuilder left = new StringBuilder();
            for (int i = 0; i < sections.get(heading).length(); i++) {
                left.append(quoted.get(heading)[i] ? ' ' : sections.get(heading).charAt(i));
            }
            String untold = plain(left.toString());
            whole.is("words of " + heading + " without rows, \"" + untold + "\"",
                untold.replaceAll("\\W", "").length(), 0);
        }
        System.out.println(told + " sentences, " + rowsTold + " rows of theirs");
        whole.end();
    }
}
