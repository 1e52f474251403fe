import java.io.IOException;
import java.lang.reflect.InvocationTargetException;
import java.lang.reflect.Method;
import java.nio.charset.StandardCharsets;
import java.nio.file.Files;
import java.nio.file.Path;

/**
 * Tests by the document's own words: each method of a test quotes the words that it holds the class to,
 * then tells which answers are due by them.
 */
final class Words {
    static final Path DOCUMENT = Path.of("../shared/DOC.md");
    static final int TERMS = 0, FACE = -1, REST = -2;

    private final Check check;
    private final String document;
    private String quoted;
    private int answers;

    Words(String test) {
        check = new Check(test);
        document = read();
    }

    /** The document, or nothing where it does not stand: then the quotes alone are not looked at. */
    static String read() {
        try {
            return Files.exists(DOCUMENT) ? Files.readString(DOCUMENT, StandardCharsets.UTF_8) : "";
        } catch (IOException e) {
            throw new IllegalStateException("the document can't be read", e);
        }
    }

    private static String begin(int number) {
        switch (number) {
            case FACE: return "## What it is";
            case TERMS: return "## Terms";
            case REST: return "## Not promised";
            default: return "## Promise " + number + ":";
        }
    }

    /** The part of the document that has the promise of this number, the Terms, what stands ahead of them, or the rest. */
    static String part(String document, int number) {
        int from = document.indexOf(begin(number));
        if (from < 0) {
            return "";
        }
        int to = document.indexOf("\n## ", from + 1);
        if (number == FACE) {
            to = document.indexOf("\n## Terms", from);
        }
        return document.substring(from, to < 0 ? document.length() : to);
    }

    void face(String words) {
        quote(FACE, words);
    }

    void rest(String words) {
        quote(REST, words);
    }

    void terms(String words) {
        quote(TERMS, words);
    }

    void promise(int number, String words) {
        quote(number, words);
    }

    private void quote(int number, String words) {
        quoted = (number > 0 ? number + " " : "") + "'" + words + "'";
        if (!document.isEmpty() && !part(document, number).contains(words)) {
            throw new IllegalStateException("the document does not say " + quoted);
        }
    }

    void due(String call, long got, long want) {
        if (quoted == null) {
            throw new IllegalStateException(call + " is held to no words");
        }
        answers++;
        check.due(quoted + ": " + call, got, want);
    }

    void same(String call, String got, String want) {
        due(call + (got.equals(want) ? "" : ": " + got + " for " + want), got.equals(want) ? 1 : 0, 1);
    }

    /** Runs every method that takes and answers nothing: each must quote words, and tell an answer that is due. */
    void run(Class<?> tests) throws IllegalAccessException {
        for (Method m : tests.getDeclaredMethods()) {
            if (m.getParameterCount() != 0 || m.getReturnType() != void.class || m.isSynthetic()) {
                continue;
            }
            quoted = null;
            answers = 0;
            m.setAccessible(true);
            try {
                m.invoke(null);
            } catch (InvocationTargetException e) {
                throw new IllegalStateException(m.getName(), e.getCause());
            }
            if (answers == 0) {
                throw new IllegalStateException(m.getName() + " holds nothing");
            }
        }
        check.end();
    }
}
