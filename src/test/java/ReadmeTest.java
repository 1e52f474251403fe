import java.io.IOException;
import java.lang.reflect.Method;
import java.lang.reflect.Modifier;
import java.nio.charset.StandardCharsets;
import java.nio.file.Files;
import java.nio.file.Path;
import java.util.regex.Matcher;
import java.util.regex.Pattern;

/** What README.md says of the class: the example's lines answer as it tells, in its order; its table has every call. */
public final class ReadmeTest {
    private static final Check CHECK = new Check("ReadmeTest");
    private static final String ROW = "(?m)^\\| `(\\w+)\\(([^)]*)\\)` \\| (.+) \\|$";

    private static String readme;
    private static int at;

    public static void main(String[] args) throws IOException {
        readme = Files.readString(Path.of("README.md"), StandardCharsets.UTF_8);
        example();
        table();
        tests();
        CHECK.end();
    }

    private static void example() {
        DreamsPayRent house = new DreamsPayRent();
        stands("DreamsPayRent house = new DreamsPayRent();");
        int dream = house.dream(2, 4, 8);
        line("int dream = house.dream(2, 4, 8);", dream);
        line("house.let(dream, 4);", house.let(dream, 4));
        line("house.would(dream, 4, 1);", house.would(dream, 4, 1));
        line("house.run(10, 1);", house.run(10, 1));
        line("house.run(10, 2);", house.run(10, 2));
        line("house.best(0);", house.best(0));
        line("house.best(1 + dream);", house.best(1 + dream));
        line("house.film(0, dream);", house.film(0, dream));
        line("house.rents(0, dream, 1);", house.rents(0, dream, 1));
        line("house.night();", house.night());
        line("house.count(3);", house.count(3));
        stands("for (char c : \"rents 5; leaks space; minds 1;\".toCharArray()) {");
        for (char c : "rents 5; leaks space; minds 1;".toCharArray()) {
            house.feed(c);
        }
        line("house.force(house.text());", house.force(house.text()));
        line("house.would(dream, 4, 1);", house.would(dream, 4, 1));
        stands("```");
    }

    /** The line stands behind the one before it. */
    private static void stands(String code) {
        int place = readme.indexOf("\n" + code, at);
        CHECK.due("README.md: " + code, place >= at ? 1 : 0, 1);
        at = Math.max(at, place + 1);
    }

    /** The line stands there, and what is said behind its colon is what the call answers. */
    private static void line(String code, int answer) {
        stands(code);
        int end = readme.indexOf('\n', at);
        Matcher m = Pattern.compile("// .*: (-?\\d+)(,.*| .*)?$").matcher(readme.substring(at, end < 0 ? readme.length() : end));
        boolean told = m.find();
        CHECK.due(code + " is told with its answer", told ? 1 : 0, 1);
        if (told) {
            CHECK.due("README.md: " + code, answer, Long.parseLong(m.group(1)));
        }
    }

    private static void table() {
        int calls = 0;
        Matcher m = Pattern.compile(ROW).matcher(readme);
        while (m.find()) {
            calls++;
            CHECK.due("README.md tells " + m.group(1), parameters(m.group(1)),
                m.group(2).isEmpty() ? 0 : m.group(2).split(", ").length);
        }
        CHECK.due("calls that README.md tells", calls, 29);
    }

    private static int parameters(String name) {
        for (Method m : DreamsPayRent.class.getDeclaredMethods()) {
            if (Modifier.isPublic(m.getModifiers()) && m.getName().equals(name)) {
                return m.getParameterCount();
            }
        }
        return -1;
    }

    /** Each test of the project stands in README.md's table of tests. */
    private static void tests() throws IOException {
        try (var files = Files.list(Path.of("src/test/java"))) {
            for (Path file : (Iterable<Path>) files.sorted()::iterator) {
                String name = file.getFileName().toString().replace(".java", "");
                if (name.endsWith("Test")) {
                    CHECK.due("README.md tells of " + name, readme.contains("`" + name + "`") ? 1 : 0, 1);
                }
            }
        }
    }
}
