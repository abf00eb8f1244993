import java.io.IOException;
import java.io.UncheckedIOException;
import java.nio.file.Files;
import java.nio.file.Path;
import java.util.ArrayList;
import java.util.BitSet;
import java.util.LinkedHashMap;
import java.util.List;
import java.util.Map;

/** The terms and the promises of the document, and which of their words a test has quoted. */
final class Document {
    private static final class Section {
        final StringBuilder text = new StringBuilder();
        final BitSet quoted = new BitSet();
    }

    private static final Map<String, Section> SECTIONS = read(Path.of("..", "shared", "DOC.md"));

    private Document() {
    }

    /** Terms go by their headings in capitals ("RACKS, WEAR"), promises by their numbers ("Promise 3"). */
    private static Map<String, Section> read(Path path) {
        Map<String, Section> sections = new LinkedHashMap<>();
        Section section = null;
        boolean inTerms = false;
        for (String line : readLines(path)) {
            if (line.startsWith("## ")) {
                inTerms = line.equals("## Terms");
                section = null;
                if (line.startsWith("## Promise ")) {
                    section = new Section();
                    sections.put(line.substring(3, line.indexOf(':')), section);
                }
            } else if (inTerms && line.matches("[A-Z, ]+")) {
                section = new Section();
                sections.put(line, section);
            } else if (section != null && !line.startsWith("Ahead of the calls")) {
                section.text.append(line).append('\n');
            }
        }
        return sections;
    }

    private static List<String> readLines(Path path) {
        try {
            return Files.readAllLines(path);
        } catch (IOException unread) {
            throw new UncheckedIOException(unread);
        }
    }

    /** How often the section has the words: once, if they are quoted well. */
    static int quote(String name, String words) {
        Section section = SECTIONS.get(name);
        if (section == null) {
            return 0;
        }
        int found = 0;
        for (int at = section.text.indexOf(words); at >= 0; at = section.text.indexOf(words, at + 1)) {
            section.quoted.set(at, at + words.length());
            found++;
        }
        return found;
    }

    static int countSections() {
        return SECTIONS.size();
    }

    /** The stretches with a letter or a digit that no test has quoted. */
    static List<String> findUnquoted() {
        List<String> stretches = new ArrayList<>();
        for (Map.Entry<String, Section> entry : SECTIONS.entrySet()) {
            Section section = entry.getValue();
            int start = section.quoted.nextClearBit(0);
            while (start < section.text.length()) {
                int end = section.quoted.nextSetBit(start);
                end = end < 0 ? section.text.length() : end;
                String stretch = section.text.substring(start, end);
                if (stretch.chars().anyMatch(Character::isLetterOrDigit)) {
                    stretches.add(entry.getKey() + ": " + stretch.strip());
                }
                start = section.quoted.nextClearBit(end);
            }
        }
        return stretches;
    }
}
