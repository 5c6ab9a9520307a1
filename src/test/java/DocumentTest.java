import java.io.IOException;
import java.nio.file.Files;
import java.nio.file.Path;
import java.util.ArrayList;
import java.util.List;
import java.util.regex.Matcher;
import java.util.regex.Pattern;
import java.util.stream.Stream;

/** The tests against the document: what they quote stands there, and of each of its clauses some test quotes half. */
public final class DocumentTest {
    private static final Path DOCUMENT = Path.of("../shared/DOC.md");
    private static final Path TESTS = Path.of("src/test/java");
    private static final Pattern TEXT = Pattern.compile("\"((?:[^\"\\\\]|\\\\.)*)\"");
    private static final Pattern QUOTE = Pattern.compile("sentence\\(((?:\\s|\\+|" + TEXT.pattern() + ")+)\\)");

    public static void main(String[] args) throws IOException {
        if (!Files.isReadable(DOCUMENT)) {
            System.out.println("there is no " + DOCUMENT + " to hold the tests against");
            return;
        }
        String document = Files.readString(DOCUMENT);
        String line = document.replaceAll("\\s+", " ");
        boolean[] quoted = new boolean[line.length()];
        for (String quote : quotes()) {
            Check.due("quotes of the document with the words " + quote, mark(line, quote, quoted) ? 1 : 0, 1);
        }
        int from = 0;
        for (String clause : clauses(document)) {
            int at = line.indexOf(clause, from);
            from = at + clause.length();
            Check.due("tests that quote " + clause, isHalfQuoted(quoted, at, from) ? 1 : 0, 1);
        }
        Check.end("DocumentTest");
    }

    private static List<String> quotes() throws IOException {
        List<String> quotes = new ArrayList<>();
        List<Path> files;
        try (Stream<Path> all = Files.list(TESTS)) {
            files = all.filter(file -> file.toString().endsWith(".java")).toList();
        }
        for (Path file : files) {
            Matcher quote = QUOTE.matcher(Files.readString(file));
            while (quote.find()) {
                StringBuilder words = new StringBuilder();
                TEXT.matcher(quote.group(1)).results().forEach(part -> words.append(part.group(1)));
                quotes.add(words.toString().replace("\\\"", "\""));
            }
        }
        return quotes;
    }

    /** Marks the words wherever they stand in the line; false if they stand nowhere. */
    private static boolean mark(String line, String words, boolean[] quoted) {
        boolean found = false;
        for (int at = line.indexOf(words); at >= 0; at = line.indexOf(words, at + 1)) {
            found = true;
            for (int i = at; i < at + words.length(); i++) {
                quoted[i] = true;
            }
        }
        return found;
    }

    /** What the terms and the promises say; FaceTest holds the face and the heads of the promises. */
    private static List<String> clauses(String document) {
        List<String> clauses = new ArrayList<>();
        String told = document.substring(document.indexOf("## Terms"), document.indexOf("## Not promised"));
        for (String line : told.split("\n")) {
            boolean head = line.startsWith("#") || line.equals(line.toUpperCase()) || line.startsWith("Ahead of");
            if (!head) {
                String text = line.replaceFirst("^- ", "").replaceFirst("^`\\w+ \\w+\\(.*?`: ", "");
                clauses.addAll(List.of(text.split("(?<=[.;:]) ")));
            }
        }
        return clauses;
    }

    private static boolean isHalfQuoted(boolean[] quoted, int from, int to) {
        int count = 0;
        for (int i = Math.max(from, 0); i < to; i++) {
            count += quoted[i] ? 1 : 0;
        }
        return from >= 0 && 2 * count >= to - from;
    }
}
