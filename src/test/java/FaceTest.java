import java.io.IOException;
import java.lang.reflect.Constructor;
import java.lang.reflect.Executable;
import java.lang.reflect.Field;
import java.lang.reflect.InvocationTargetException;
import java.lang.reflect.Method;
import java.lang.reflect.Modifier;
import java.nio.charset.StandardCharsets;
import java.nio.file.Files;
import java.nio.file.Path;
import java.util.Arrays;
import java.util.Set;
import java.util.TreeSet;
import java.util.regex.Matcher;
import java.util.regex.Pattern;

/** The public face, the rules of LANGUAGE.md that can be seen from outside, and that no call ever throws. */
public final class FaceTest {
    private static final Check CHECK = new Check("FaceTest");
    private static final String[] FACE = {
        "int set(int,int,int)", "int dream(int,int,int)", "int let(int,int)", "int told(int,int)",
        "int would(int,int,int)", "int who(int)", "int feed(int)", "int text()", "int force(int)", "int leak(int)",
        "int worth()", "int night()", "int run(int,int)", "int best(int)", "int change(int)", "int putOut(int)",
        "int line(int)", "int rents(int,int,int)", "int film(int,int)", "int drawn(int)", "long chance(int,int,int)",
        "int image()", "int back()", "int count(int)", "int sheet(int,int,int)", "int cell(int,int,int)",
        "int copy(int,int,int,int,int)", "int dreams(int,int,int,int)", "int taken(int,int)",
    };
    private static final int[] EDGES = {
        Integer.MIN_VALUE, -1000, -2, -1, 0, 1, 2, 3, 4, 5, 6, 7, 8, 9, 10, 11, 20, 21, 40, 41, 60, 61, 160, 255, 256,
        999, 1000, 1023, 1024, 9999, 10000, Integer.MAX_VALUE - 1, Integer.MAX_VALUE,
    };

    public static void main(String[] args) throws Exception {
        constants();
        members();
        nested();
        source();
        library();
        divisors();
        methodsAreShort();
        nothingIsMadeLater();
        for (int state = 0; state < 4; state++) {
            neverThrows(state);
        }
        CHECK.end();
    }

    private static void isTrue(String what, boolean so) {
        CHECK.due(what, so ? 1 : 0, 1);
    }

    private static void constants() {
        CHECK.due("NONE", DreamsPayRent.NONE, -1);
        CHECK.due("BAD", DreamsPayRent.BAD, -2);
        CHECK.due("STATE", DreamsPayRent.STATE, -3);
        CHECK.due("FULL", DreamsPayRent.FULL, -4);
        CHECK.due("NO", DreamsPayRent.NO, -4611686018427387904L);
    }

    private static String signature(Method m) {
        StringBuilder s = new StringBuilder(m.getReturnType() + " " + m.getName() + "(");
        String comma = "";
        for (Class<?> type : m.getParameterTypes()) {
            s.append(comma).append(type);
            comma = ",";
        }
        return s.append(")").toString();
    }

    private static void members() {
        Set<String> face = new TreeSet<>(Arrays.asList(FACE));
        Set<String> found = new TreeSet<>();
        Set<String> publicNames = new TreeSet<>();
        for (Method m : DreamsPayRent.class.getDeclaredMethods()) {
            if (!Modifier.isPrivate(m.getModifiers()) && !m.isSynthetic()) {
                found.add(signature(m));
                publicNames.add(m.getName());
            }
        }
        isTrue("the public methods are those of the face: " + found, face.equals(found));
        isTrue("the class is public and final",
            (DreamsPayRent.class.getModifiers() & (Modifier.PUBLIC | Modifier.FINAL)) == (Modifier.PUBLIC | Modifier.FINAL));
        for (Method m : DreamsPayRent.class.getDeclaredMethods()) {
            isTrue("rule 1: private " + m.getName(),
                !Modifier.isPrivate(m.getModifiers()) || !publicNames.contains(m.getName()));
        }
        Set<String> fields = new TreeSet<>();
        for (Field f : DreamsPayRent.class.getDeclaredFields()) {
            if (!Modifier.isPrivate(f.getModifiers())) {
                fields.add(f.getType() + " " + f.getName());
            }
        }
        isTrue("the public constants: " + fields, fields.equals(
            new TreeSet<>(Arrays.asList("int NONE", "int BAD", "int STATE", "int FULL", "long NO"))));
        Constructor<?>[] constructors = DreamsPayRent.class.getDeclaredConstructors();
        CHECK.due("constructors", constructors.length, 1);
        isTrue("its modifier", Modifier.isPublic(constructors[0].getModifiers()));
    }

    private static void nested() {
        Class<?>[] inside = DreamsPayRent.class.getDeclaredClasses();
        isTrue("rule 11: classes", inside.length <= 12);
        for (Class<?> c : inside) {
            isTrue("rule 2: " + c + " is static", Modifier.isStatic(c.getModifiers()));
            isTrue("rule 1: " + c + " is not public", !Modifier.isPublic(c.getModifiers()));
            for (Method m : c.getDeclaredMethods()) {
                isTrue("rule 1: private " + m, !Modifier.isPrivate(m.getModifiers()) || !isOfTheFace(m.getName()));
            }
            limits(c);
        }
        limits(DreamsPayRent.class);
    }

    private static void limits(Class<?> c) {
        int fields = 0;
        for (Field f : c.getDeclaredFields()) {
            if (Modifier.isStatic(f.getModifiers())) {
                isTrue("rule 5: " + f + " is final", Modifier.isFinal(f.getModifiers()));
            } else {
                fields++;
            }
        }
        isTrue("rule 11: fields of " + c, fields <= 20);
        for (Executable e : c.getDeclaredMethods()) {
            isTrue("rule 11: parameters of " + e, e.getParameterCount() <= 7);
        }
    }

    private static boolean isOfTheFace(String name) {
        for (String one : FACE) {
            if (one.contains(" " + name + "(")) {
                return true;
            }
        }
        return false;
    }

    private static String source;

    private static void source() throws IOException {
        String s = Files.readString(Path.of("src/main/java/DreamsPayRent.java"), StandardCharsets.ISO_8859_1);
        boolean ascii = true;
        for (int i = 0; i < s.length(); i++) {
            ascii &= s.charAt(i) < 127;
        }
        isTrue("rule 3: signs", ascii);
        source = s.replaceAll("(?s)/\\*.*?\\*/", " ").replaceAll("//[^\n]*", " ");
        String[] words = {"import", "package", "throw", "throws", "try", "catch", "synchronized", "assert", "instanceof",
            "Exception", "Object", "System\\.out", "Random", "Thread", "protected", "volatile", "transient", "native",
            "record", "enum", "interface", "extends", "implements", "List", "StringBuilder", "null"};
        for (String word : words) {
            isTrue("rules 2, 4, 6: no " + word, !finds("\\b" + word + "\\b"));
        }
        isTrue("rule 2: no lambda", !source.contains("->"));
        isTrue("rule 2: no method reference", !source.contains("::"));
        isTrue("rule 5: no static block", !finds("\\bstatic\\s*\\{"));
        isTrue("rule 10: texts are not joined by +", !finds("\"\\s*\\+|\\+\\s*\""));
        isTrue("rule 9: no loop without an end", !finds("while\\s*\\(\\s*true|for\\s*\\([^;]*;\\s*;"));
    }

    private static boolean finds(String pattern) {
        return Pattern.compile(pattern).matcher(source).find();
    }

    private static void library() {
        Set<String> own = new TreeSet<>();
        for (Class<?> c : DreamsPayRent.class.getDeclaredClasses()) {
            own.add(c.getSimpleName());
        }
        Set<String> allowed = Set.of("Math.max", "Math.min", "Integer.bitCount", "System.arraycopy");
        Matcher m = Pattern.compile("\\b([A-Z]\\w*[a-z]\\w*)\\.(\\w+)").matcher(source);
        while (m.find()) {
            isTrue("rule 4: " + m.group(), own.contains(m.group(1)) || allowed.contains(m.group()));
        }
    }

    /** What divides is a number, or what the loop around it holds above 1 just then. */
    private static void divisors() {
        int found = 0;
        Matcher m = Pattern.compile("[/%]=?\\s*([\\w.(]+)").matcher(source);
        while (m.find()) {
            found++;
            String divisor = m.group(1);
            int method = source.lastIndexOf("\n    }\n", m.start());
            boolean held = Pattern.compile("for \\([^;]*; " + Pattern.quote(divisor) + " > 1;")
                .matcher(source.substring(Math.max(0, method), m.start())).find();
            isTrue("rule 7: divisor " + divisor, divisor.matches("[1-9]\\d*") || held);
        }
        isTrue("rule 7: " + found + " divisors", found >= 8);
    }

    /** From a line that opens a method, or a constructor, to the one that closes it. */
    private static void methodsAreShort() {
        int begin = -1;
        String indent = "";
        String[] lines = source.split("\n");
        for (int i = 0; i < lines.length; i++) {
            if (begin < 0 && lines[i].matches(" {4,8}[\\w\\[\\] ]+\\([^;]*\\) \\{") && !lines[i].matches(" *(if|for|while|switch).*")) {
                begin = i;
                indent = lines[i].replaceAll("\\S.*", "");
            } else if (begin >= 0 && lines[i].equals(indent + "}")) {
                isTrue("rule 11: " + (i - begin + 1) + " lines of " + lines[begin].strip(), i - begin + 1 <= 60);
                begin = -1;
            }
        }
    }

    /** What is made is made by a constructor, or as a field is. */
    private static void nothingIsMadeLater() {
        int made = 0;
        for (String line : source.split("\n")) {
            if (line.matches(".*\\bnew\\b.*")) {
                isTrue("rule 12: " + line.strip(), line.matches(" {8}(final int\\[\\](\\[\\])? )?\\w+ = new .*;"));
                made++;
            }
        }
        isTrue("rule 12: " + made + " are made", made >= 7);
    }

    /** A state: new, some in, all in by another rule, all FULL. */
    private static DreamsPayRent made(int state) {
        DreamsPayRent x = new DreamsPayRent();
        for (int i = 0; i < 160 && state == 3; i++) {
            x.feed(i);
        }
        for (int i = 0; i < 5 && state >= 1; i++) {
            x.dream(i, 9 - i, 1 + i);
            x.let(i, i == 2 ? 6 : i);
        }
        for (int i = 0; i < 4 && state >= 1; i++) {
            x.sheet(i, i % 3, 8 + 10 * i);
        }
        if (state == 2) {
            Check.rule(x, "rents night*size; leaks -space*-owes; minds number < (floor and not owes or 1);");
            x.image();
        }
        return x;
    }

    /** Each call with all pairs of edges (others drawn along), on a state made anew for each first argument. */
    private static void neverThrows(int state) throws IllegalAccessException {
        for (Method m : DreamsPayRent.class.getDeclaredMethods()) {
            if (!Modifier.isPublic(m.getModifiers())) {
                continue;
            }
            int n = m.getParameterCount();
            for (int turn = 0; turn < (n == 0 ? 1 : EDGES.length); turn++) {
                DreamsPayRent x = made(state);
                for (int second = 0; second < (n < 2 ? 1 : EDGES.length); second++) {
                    Object[] args = new Object[n];
                    for (int i = 0; i < n; i++) {
                        args[i] = EDGES[(i == 0 ? turn : i == 1 ? second : turn * 7 + second * (i + 3)) % EDGES.length];
                    }
                    isTrue("rule 7: " + m.getName() + Arrays.toString(args) + " of state " + state, answers(x, m, args));
                }
            }
        }
    }

    private static boolean answers(DreamsPayRent x, Method m, Object[] args) throws IllegalAccessException {
        try {
            m.invoke(x, args);
            return true;
        } catch (InvocationTargetException e) {
            return false;
        }
    }
}
