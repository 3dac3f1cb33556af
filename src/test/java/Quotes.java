import java.io.IOException;
import java.nio.file.Files;
import java.nio.file.Path;
import java.util.Arrays;
import java.util.List;
import java.util.regex.Matcher;
import java.util.regex.Pattern;
import java.util.stream.Collectors;
import java.util.stream.Stream;

/**
 * Holds what the tests quote by says() against the document: tells each quote that doesn't stand in it, and all of its
 * words that no test quotes. It is no test, so that a document that is worded anew doesn't keep what is right from landing.
 */
public final class Quotes {
    private static final Pattern SAYS = Pattern.compile("\\.says\\(((?:\\s*\"(?:[^\"\\\\]|\\\\.)*\"\\s*\\+?)+)\\)");
    private static final Pattern STRING = Pattern.compile("\"((?:[^\"\\\\]|\\\\.)*)\"");

    private final String words;
    private final String language;
    private final boolean[] quoted;
    private int wrong;

    private Quotes(String document, String language) {
        words = plain(document.replaceAll("(?s)```java.*?```", "").replaceAll("```(text)?|(?m)^#.*|==== \\d\\.", " ")
                // The face's signatures: FaceTest has them.
                .replaceAll("`[a-z]+ [a-z]+\\([^`]*`:", " "));
        this.language = plain(language);
        quoted = new boolean[words.length()];
    }

    public static void main(String[] args) throws IOException {
        Quotes quotes = new Quotes(Files.readString(Path.of("../shared/DOC.md")),
                Files.readString(Path.of("../shared/LANGUAGE.md")));
        List<Path> tests;
        try (Stream<Path> files = Files.list(Path.of("src/test/java"))) {
            tests = files.sorted().collect(Collectors.toList());
        }
        for (Path test : tests) {
            Matcher says = SAYS.matcher(Files.readString(test));
            while (says.find()) {
                quotes.look(test.getFileName().toString(), says.group(1));
            }
        }
        quotes.tellUnquoted();
        System.exit(quotes.wrong == 0 ? 0 : 1);
    }

    private static String plain(String text) {
        return text.replace("`", "").replaceAll("\\s+", " ");
    }

    /** A quote may leave words out: '..' stands for them. */
    private void look(String test, String strings) {
        StringBuilder quote = new StringBuilder();
        Matcher string = STRING.matcher(strings);
        while (string.find()) {
            quote.append(string.group(1).replace("\\\"", "\""));
        }
        for (String part : plain(quote.toString()).split(" ?\\.\\. ?")) {
            boolean stands = language.contains(part);
            for (int at = words.indexOf(part); at >= 0 && !part.isEmpty(); at = words.indexOf(part, at + 1)) {
                Arrays.fill(quoted, at, at + part.length(), true);
                stands = true;
            }
            if (!stands) {
                wrong++;
                System.out.println(test + ": \"" + part + "\" doesn't stand in the document");
            }
        }
    }

    private void tellUnquoted() {
        int end = words.indexOf("How the state is held");
        for (int from = 0; from < end; from++) {
            int to = from;
            while (to < end && !quoted[to]) {
                to++;
            }
            String left = words.substring(from, to);
            if (left.matches(".*[A-Za-z0-9].*")) {
                wrong++;
                System.out.println("no test quotes: \"" + left.trim() + "\"");
            }
            from = to;
        }
    }
}
