import java.util.ArrayList;
import java.util.List;
import java.util.regex.Matcher;
import java.util.regex.Pattern;

/** The sentences of ../shared/DOC.md, and which of them a test has named. */
final class Sentences {
    private static final int PROMISES = 30;
    private static final int LAST_PART = PROMISES + 1;

    // Part 0 holds what stands ahead of the promises, part n promise n, the last one what stands behind them.
    private final List<String> parts = new ArrayList<>();
    private final List<boolean[]> named = new ArrayList<>();

    Sentences() {
        String document = Document.text();
        for (int part = 0; part <= LAST_PART; part++) {
            String text = textOf(document, part);
            parts.add(text);
            named.add(new boolean[text.length()]);
        }
    }

    /** Marks a sentence as named; false: the part doesn't have it, or has it more than once. */
    boolean name(int part, String sentence) {
        Pattern whole = Pattern.compile("(?<![\\w-])" + Pattern.quote(sentence) + "(?!\\w)");
        Matcher found = whole.matcher(parts.get(part));
        if (!found.find()) {
            return false;
        }
        for (int i = found.start(); i < found.end(); i++) {
            named.get(part)[i] = true;
        }
        return !found.find();
    }

    /** What of the document no test has named, a line for each piece. */
    String unnamed() {
        StringBuilder rest = new StringBuilder();
        for (int part = 0; part <= LAST_PART; part++) {
            String text = parts.get(part);
            StringBuilder piece = new StringBuilder();
            for (int i = 0; i <= text.length(); i++) {
                if (i < text.length() && !named.get(part)[i]) {
                    piece.append(text.charAt(i));
                } else {
                    addPiece(rest, part, piece);
                }
            }
        }
        return rest.toString();
    }

    private static void addPiece(StringBuilder rest, int part, StringBuilder piece) {
        if (Pattern.compile("\\w").matcher(piece).find()) {
            rest.append(part).append(": ").append(piece.toString().trim()).append('\n');
        }
        piece.setLength(0);
    }

    /** The words of a part alone: neither the calls' forms and groups, which FaceTest holds, nor marks of layout. */
    private static String textOf(String document, int part) {
        int start = document.indexOf(beginOf(part));
        int end = part == LAST_PART ? document.length() : document.indexOf(beginOf(part + 1));
        if (start < 0 || end < start) {
            throw new IllegalStateException("the document has no part " + part);
        }
        String text = document.substring(start, end).replaceAll("(?s)```java\n.*?```", " ");
        text = text.replaceAll("(?m)^#.*$", " ").replaceAll("(?m)^Ahead of the calls.*$", " ");
        text = text.replaceAll("(?m)^```.*$", " ").replaceAll("==== \\d", " ").replaceAll("`[^`]*`:", " ");
        return text.replaceAll("\\s+", " ");
    }

    private static String beginOf(int part) {
        if (part == 0) {
            return "# FlowerClock\n";
        }
        return part == LAST_PART ? "## Not promised\n" : "## Promise " + part + ":";
    }
}
