import java.io.IOException;
import java.nio.file.Path;
import java.util.ArrayList;
import java.util.LinkedHashMap;
import java.util.List;
import java.util.Map;
import java.util.Set;
import java.util.regex.MatchResult;
import java.util.regex.Pattern;

/** The document's sections, and which of their words a test has quoted. */
final class Document {
    private static final class Section {
        final String text;
        final boolean[] quoted;

        Section(String text) {
            this.text = text;
            this.quoted = new boolean[text.length()];
        }
    }

    private static final Pattern FACE_LINE = Pattern.compile("public [^;{]*;");

    private final Map<String, Section> sections = new LinkedHashMap<>();

    static Document read(Path path) throws IOException {
        Document document = new Document();
        for (String part : java.nio.file.Files.readString(path).split("(?m)^## ")) {
            String[] headingAndBody = part.split("\n", 2);
            String body = headingAndBody[1].replaceAll("\\s+", " ").trim();
            // What stands between the first backquotes of a promise is its signature: FaceTest has that.
            document.sections.put(headingAndBody[0].trim(), new Section(body.replaceFirst("^`[^`]*`: ", "")));
        }
        return document;
    }

    /** The lines of the class that the document writes out, without their margin. */
    List<String> face() {
        return List.of(FACE_LINE.matcher(sections.get("The public face").text).results()
            .map(MatchResult::group).toArray(String[]::new));
    }

    Set<String> headings() {
        return sections.keySet();
    }

    /** Whether the section has these words; they count as quoted from now on. */
    boolean quote(String heading, String words) {
        Section section = sections.get(heading);
        int at = section == null ? -1 : section.text.indexOf(words);
        if (at < 0) {
            return false;
        }
        java.util.Arrays.fill(section.quoted, at, at + words.length(), true);
        return true;
    }

    /** The pieces of a section that no test has quoted; what stands between two quotes alone is none. */
    List<String> notQuoted(String heading) {
        Section section = sections.get(heading);
        List<String> pieces = new ArrayList<>();
        StringBuilder piece = new StringBuilder();
        for (int i = 0; i <= section.quoted.length; i++) {
            if (i < section.quoted.length && !section.quoted[i]) {
                piece.append(section.text.charAt(i));
            } else {
                if (piece.chars().anyMatch(Character::isLetterOrDigit)) {
                    pieces.add(piece.toString());
                }
                piece.setLength(0);
            }
        }
        return pieces;
    }
}
