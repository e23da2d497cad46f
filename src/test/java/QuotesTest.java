import java.io.IOException;
import java.nio.charset.StandardCharsets;
import java.nio.file.Files;
import java.nio.file.Path;
import java.util.ArrayList;
import java.util.List;
import java.util.regex.Matcher;
import java.util.regex.Pattern;
import java.util.stream.Collectors;
import java.util.stream.Stream;

/** Each sentence of the Terms and of the promises is quoted by a test that holds the class to it, word for word. */
public final class QuotesTest {
    private static final Path DOCUMENT = Path.of("../shared/DOC.md");
    private static final Pattern QUOTE = Pattern.compile("Check\\.says\\(((?:\\s*\"(?:[^\"\\\\]|\\\\.)*\"\\s*\\+?)+)\\)");

    public static void main(String[] args) throws IOException {
        if (!Files.isReadable(DOCUMENT)) {
            System.out.println("no document at " + DOCUMENT + " to look quotes up in");
            return;
        }
        String text = sentences(Files.readString(DOCUMENT, StandardCharsets.UTF_8));
        boolean[] quoted = new boolean[text.length()];
        for (String quote : quotes()) {
            int at = text.indexOf(quote);
            Check.due("the document says: " + quote, at >= 0, true);
            for (; at >= 0; at = text.indexOf(quote, at + 1)) {
                java.util.Arrays.fill(quoted, at, at + quote.length(), true);
            }
        }
        for (String rest : unquoted(text, quoted)) {
            Check.due("no test quotes: " + rest, 1, 0);
        }
        Check.end();
    }

    /** The Terms and what stands behind each promise's signature, with single blanks. */
    private static String sentences(String document) {
        int from = document.indexOf("## Terms");
        int to = document.indexOf("## Not promised");
        return document.substring(Math.max(0, from), to < 0 ? document.length() : to)
                .replaceAll("(?m)^#.*$", " ")
                .replaceAll("(?m)^```.*$", " ")
                .replaceAll("(?m)^Ahead of the calls .*$", " ")
                .replaceAll("(?m)^`.*?`: ", " ")
                .replaceAll("==== \\d\\.", " ")
                .replaceAll("\\s+", " ");
    }

    private static List<String> quotes() throws IOException {
        List<Path> sources;
        try (Stream<Path> all = Files.list(Path.of("src/test/java"))) {
            sources = all.filter(p -> p.toString().endsWith("Test.java")).sorted().collect(Collectors.toList());
        }
        List<String> found = new ArrayList<>();
        for (Path source : sources) {
            Matcher m = QUOTE.matcher(Files.readString(source, StandardCharsets.UTF_8));
            while (m.find()) {
                found.add(m.group(1).trim().replaceAll("\"\\s*\\+\\s*\"", "").replaceAll("^\"|\"$", ""));
            }
        }
        return found;
    }

    private static List<String> unquoted(String text, boolean[] quoted) {
        List<String> rests = new ArrayList<>();
        StringBuilder rest = new StringBuilder();
        for (int k = 0; k <= text.length(); k++) {
            if (k < text.length() && !quoted[k]) {
                rest.append(text.charAt(k));
            } else {
                if (rest.toString().matches(".*\\w.*")) {
                    rests.add(rest.toString().trim());
                }
                rest.setLength(0);
            }
        }
        return rests;
    }
}
