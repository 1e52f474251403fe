import java.io.IOException;
import java.nio.charset.StandardCharsets;
import java.nio.file.Files;
import java.nio.file.Path;
import java.util.ArrayList;
import java.util.HashMap;
import java.util.List;
import java.util.Map;
import java.util.regex.Matcher;
import java.util.regex.Pattern;
import java.util.stream.Stream;

/** No word of what the document says it is, of its Terms and promises is left that no test of words quotes. */
public final class DocumentTest {
    private static final Check CHECK = new Check("DocumentTest");
    private static final int PROMISES = 30;
    private static final Pattern QUOTE = Pattern.compile(
        "W\\.(face|terms|promise)\\(\\s*(?:(\\d+),\\s*)?((?:\"(?:[^\"\\\\]|\\\\.)*\"\\s*\\+?\\s*)+)\\)");
    private static final Pattern LITERAL = Pattern.compile("\"((?:[^\"\\\\]|\\\\.)*)\"");

    public static void main(String[] args) throws IOException {
        Map<Integer, List<String>> quotes = quotes();
        String document = Words.read();
        if (document.isEmpty()) {
            System.out.println("DocumentTest: " + Words.DOCUMENT + " does not stand here");
            return;
        }
        for (int number = Words.FACE; number <= PROMISES; number++) {
            CHECK.due(name(number) + ": words that stand there", words(document, number), 1);
            for (String rest : rests(said(document, number), quotes.get(number))) {
                CHECK.due(name(number) + ": quotes of '" + rest + "'", 0, 1);
            }
        }
        CHECK.end();
    }

    private static int words(String document, int number) {
        return said(document, number).matches("(?s).*\\w.*") ? 1 : 0;
    }

    private static String name(int number) {
        return number == Words.FACE ? "What it is" : number == Words.TERMS ? "Terms" : "promise " + number;
    }

    /** The quotes of each promise, of the Terms, of what stands ahead of them, by the numbers of Words. */
    private static Map<Integer, List<String>> quotes() throws IOException {
        Map<Integer, List<String>> quotes = new HashMap<>();
        for (int number = Words.FACE; number <= PROMISES; number++) {
            quotes.put(number, new ArrayList<>());
        }
        try (Stream<Path> files = Files.list(Path.of("src/test/java"))) {
            for (Path file : (Iterable<Path>) files.sorted()::iterator) {
                Matcher m = QUOTE.matcher(Files.readString(file, StandardCharsets.UTF_8));
                while (m.find()) {
                    StringBuilder words = new StringBuilder();
                    Matcher literal = LITERAL.matcher(m.group(3));
                    while (literal.find()) {
                        words.append(literal.group(1));
                    }
                    quotes.get(number(m.group(1), m.group(2))).add(words.toString());
                }
            }
        }
        return quotes;
    }

    private static int number(String part, String promise) {
        if (part.equals("face")) {
            return Words.FACE;
        }
        return part.equals("terms") ? Words.TERMS : Integer.parseInt(promise);
    }

    /**
     * What the part says to the class: no headings, signatures, marks, comments of the face.
     * The face itself is compared line by line by FaceWordsTest.
     */
    private static String said(String document, int number) {
        return Words.part(document, number).replaceAll("(?s)```java.*?```", " ").replaceAll("(?m)^## .*$|^```.*$|^==== \\d|^Ahead of the calls .*$", " ")
            .replaceAll("`[^`\n]*`:", " ");
    }

    private static List<String> rests(String said, List<String> quotes) {
        boolean[] quoted = new boolean[said.length()];
        for (String words : quotes) {
            for (int at = said.indexOf(words); at >= 0; at = said.indexOf(words, at + 1)) {
                java.util.Arrays.fill(quoted, at, at + words.length(), true);
            }
        }
        List<String> rests = new ArrayList<>();
        StringBuilder rest = new StringBuilder();
        for (int i = 0; i <= said.length(); i++) {
            if (i < said.length() && !quoted[i]) {
                rest.append(said.charAt(i));
            } else {
                if (rest.toString().matches("(?s).*\\w.*")) {
                    rests.add(rest.toString().strip());
                }
                rest.setLength(0);
            }
        }
        return rests;
    }
}
