import java.io.IOException;
import java.io.UncheckedIOException;
import java.nio.file.Files;
import java.nio.file.Path;
import java.util.ArrayList;
import java.util.LinkedHashMap;
import java.util.List;
import java.util.Map;
import java.util.Set;

/** The document by its headings; it notes which of its words the tests quote. */
final class Document {
    private static final Set<String> NO_BOUNDS = Set.of("the card", "the entry", "the player", "the pile", "the pile it is from");

    private static final class Section {
        private final String text;
        private final boolean[] quoted;

        Section(String text) {
            this.text = text;
            this.quoted = new boolean[text.length()];
        }
    }

    private final Map<String, Section> sections = new LinkedHashMap<>();

    Document() {
        for (String part : read().split("(?m)^## ")) {
            String[] headAndBody = part.split("\n", 2);
            if (headAndBody.length == 2) {
                sections.put(headAndBody[0].trim(), new Section(told(headAndBody[1])));
            }
        }
    }

    private static String read() {
        try {
            return Files.readString(Path.of("../shared/DOC.md"));
        } catch (IOException e) {
            throw new UncheckedIOException(e);
        }
    }

    /** What is told in words: no signatures, and of the parameters those alone that are not just named. */
    private static String told(String body) {
        List<String> lines = new ArrayList<>();
        for (String line : body.split("\n")) {
            String words = line.replaceFirst("^`[^`]*`: ", "").replaceFirst("^- `\\w+`: ", "");
            if (!words.isBlank() && !(line.startsWith("- ") && NO_BOUNDS.contains(words))) {
                lines.add(words);
            }
        }
        return String.join("\n", lines);
    }

    List<String> promises() {
        return sections.keySet().stream().filter(heading -> heading.startsWith("Promise ")).toList();
    }

    /** Whether the words stand in a section, where they are not quoted yet. */
    boolean quote(String heading, String words) {
        Section section = sections.get(heading);
        if (section == null || words.isBlank()) {
            return false;
        }
        for (int at = section.text.indexOf(words); at >= 0; at = section.text.indexOf(words, at + 1)) {
            if (!section.quoted[at]) {
                java.util.Arrays.fill(section.quoted, at, at + words.length(), true);
                return true;
            }
        }
        return false;
    }

    /** The words of a section that no test has quoted. */
    String unquoted(String heading) {
        Section section = sections.get(heading);
        if (section == null) {
            return "no such section";
        }
        StringBuilder left = new StringBuilder();
        for (int i = 0; i < section.quoted.length; i++) {
            left.append(section.quoted[i] ? '\n' : section.text.charAt(i));
        }
        return left.toString().replaceAll("[^\\p{Alnum}\\n][^\\p{Alnum}\\n]*(?=\\n|$)", "").replaceAll("\\n+", "\n").trim();
    }
}
