import java.io.IOException;
import java.lang.reflect.InvocationTargetException;
import java.lang.reflect.Method;
import java.lang.reflect.Modifier;
import java.nio.charset.StandardCharsets;
import java.nio.file.Files;
import java.nio.file.Path;
import java.util.Random;
import java.util.regex.Matcher;
import java.util.regex.Pattern;

/** What the document says ahead of its Terms (what it is, the public face), and behind its promises. */
public final class FaceWordsTest {
    private static final Words W = new Words("FaceWordsTest");
    private static final int NONE = -1, BAD = -2, FULL = -4;
    private static final int DREAM = 0, FLYING = 2, NIGHTMARE = 3, PARTY = 4, SIMPLE = 5;
    private static final int SHEET = 2;

    public static void main(String[] args) throws Exception {
        W.run(FaceWordsTest.class);
    }

    /** Rents of THE RULE; what leaks is as bad as NUMBER tells. */
    private static DreamsPayRent let() {
        DreamsPayRent x = new DreamsPayRent();
        Check.rule(x, "rents size + floor; leaks space; minds number;");
        Check.lodger(x, DREAM, 2, 6, 0);
        Check.lodger(x, FLYING, 1, 8, 4);
        Check.lodger(x, SIMPLE, 3, 4, 1);
        return x;
    }

    // ---- What it is

    private static void aLodgingHouse() {
        W.face("Dreams pay rent: a lodging house of eight rooms on four floors,");
        DreamsPayRent x = new DreamsPayRent();
        W.due("the eighth ROOM", x.who(7), NONE);
        W.due("a ninth ROOM", x.who(8), BAD);
        x.dream(DREAM, 0, 1);
        Check.rule(x, "rents floor; leaks 0; minds 0;");
        W.due("the first FLOOR", x.would(0, 0, 1), 0);
        W.due("the fourth FLOOR", x.would(0, 7, 1), 3);
    }

    private static void dreams() {
        W.face("up to five dreams of kinds that are let in there with their things, each with a purse;");
        DreamsPayRent x = let();
        W.due("a fourth", x.dream(NIGHTMARE, 0, 1), 3);
        W.due("a fifth", x.dream(PARTY, 0, 1), 4);
        W.due("a sixth", x.dream(DREAM, 0, 1), FULL);
        W.due("KIND", x.told(3, 8), NIGHTMARE);
        W.due("let(3, 7)", x.let(3, 7), NONE);
        W.due("SPACE", x.told(1, 4), 8);
        W.due("PURSE", x.told(4, 5), 100);
    }

    private static void whatTheyNeed() {
        W.face("what they need, on which floor they lie, what leaks through which wall;");
        DreamsPayRent x = let();
        W.due("NEEDS", x.told(2, 9), 2);
        W.due("a FLYING LIES on FLOOR 2", x.would(1, 5, 0), 1);
        W.due("not on FLOOR 1", x.would(1, 3, 0), 0);
        W.due("WALL 0", x.leak(0), 6 * 3 + 4 * 2);
        W.due("WALL 2", x.leak(2), 0);
    }

    private static void byARuleOfTexts() {
        W.face("by a rule of texts what one pays a night, how much leaks, how bad that is;");
        DreamsPayRent x = let();
        W.due("PAYS", x.would(1, 4, 1), 24);
        W.due("leaks", x.would(1, 4, 2), 8);
        W.due("minds", x.would(1, 4, 3), 1);
        W.due("force(0)", x.force(0), 1);
        W.due("minds by another", x.would(1, 4, 3), 0);
    }

    private static void nightByNight() {
        W.face("who is let in where, night by night who pays, who owes, is put out;");
        DreamsPayRent x = let();
        W.due("who(4)", x.who(4), 1);
        x.set(5, 0, 10);
        x.set(5, 1, 5);
        x.set(5, 2, 7);
        W.due("night()", x.night(), 1);
        W.due("it pays", x.told(0, 5), 0);
        W.due("it OWES", x.told(2, 6), 10);
        W.due("it is put out", x.told(1, 7), NONE);
        W.due("TAKEN", x.count(3), 10);
    }

    private static void letBest() {
        W.face("how the house is let best, whom to put elsewhere, whom to put out, which wall to line;");
        DreamsPayRent x = let();
        W.due("WORTH", x.worth(), 10 + 24 + 10 - 26);
        // with rooms between them nothing leaks: 11 and 26 and 12
        W.due("BEST: WORTH", x.best(0), 49);
        W.due("BEST: DREAM 0", x.best(1), 2);
        W.due("BEST: DREAM 1", x.best(2), 6);
        W.due("BEST: DREAM 2", x.best(3), 5);
        W.due("PUT OUT", x.putOut(0), 0);
        W.due("PUT OUT: WORTH", x.putOut(1), 24 + 10);
        W.due("LINE", x.line(0), 0);
        W.due("LINE: WORTH", x.line(1), 10 + 24 + 10);
        x.dream(DREAM, 0, 1);
        W.due("CHANGE", x.change(0), 23);
        W.due("CHANGE: WORTH", x.change(1), 10 + 24 + 10 - 2);
    }

    private static void howLong() {
        W.face("how long till one is put out, what is taken;");
        DreamsPayRent x = let();
        W.due("who is out first", x.run(6, 1), 1);
        W.due("in which night", x.run(6, 2), 4);
        W.due("TAKEN", x.run(6, 0), 60 + 96 + 60);
    }

    private static void rentsThatWereTold() {
        W.face("rents that were told, read back: of which kind a dream is, in which night, by which text;");
        DreamsPayRent x = let();
        Check.rule(x, "rents night * 3; leaks 0; minds 0;");
        x.set(1, 0, 11);
        x.film(SHEET, 1);
        x.set(1, 0, 0);
        W.due("otherwise now", x.rents(SHEET, 1, 0), 0);
        W.due("how many NIGHTS", x.rents(SHEET, 1, 4), 1);
        W.due("the NIGHT", x.rents(SHEET, 1, 5), 11);
        x.set(1, 0, 11);
        W.due("KINDS", x.rents(SHEET, 1, 1), 1 << FLYING);
        W.due("TEXTS", x.rents(SHEET, 1, 3), 1 << 2);
    }

    private static void pursesThatAreDrawn() {
        W.face("purses that are drawn; all laid back.");
        DreamsPayRent x = new DreamsPayRent();
        Check.lodger(x, SIMPLE, 9, 1, 0);
        int purse = ((7 * 1103515245 + 12345) >>> 9) % 200;
        W.due("drawn(7)", x.drawn(7), Math.min(20, purse / 10) * 10);
        W.due("image()", x.image(), 1);
        W.due("let(0, NONE)", x.let(0, NONE), 0);
        W.due("back()", x.back(), 1);
        W.due("all laid back", x.who(0), 0);
    }

    private static void whatLaterCallsAnswer() throws IllegalAccessException {
        W.face("An object is used for at most 512 calls after it has been made; what later calls answer is free.");
        Random random = new Random(512);
        DreamsPayRent x = let();
        for (int i = 0; i < 3000; i++) {
            W.due("a later call answers, and does not throw", answers(x, random) ? 1 : 0, 1);
        }
    }

    private static boolean answers(DreamsPayRent x, Random random) throws IllegalAccessException {
        Method[] methods = DreamsPayRent.class.getDeclaredMethods();
        Method m = methods[random.nextInt(methods.length)];
        if (!Modifier.isPublic(m.getModifiers())) {
            return true;
        }
        Object[] args = new Object[m.getParameterCount()];
        for (int i = 0; i < args.length; i++) {
            args[i] = random.nextInt(20) == 0 ? random.nextInt() : random.nextInt(14) - 2;
        }
        try {
            m.invoke(x, args);
            return true;
        } catch (InvocationTargetException e) {
            return false;
        }
    }

    // ---- The public face

    private static void thePublicFace() throws IOException {
        String source = source();
        int lines = 0;
        Matcher m = Pattern.compile("(?m)^ {4}(public .*);$").matcher(Words.part(Words.read(), Words.FACE));
        while (m.find()) {
            lines++;
            W.face(m.group(1) + ";");
            boolean isConstant = m.group(1).contains(" = ");
            W.due("it stands", source.contains(m.group(1) + (isConstant ? ";" : " {")) ? 1 : 0, 1);
        }
        W.face("public final class DreamsPayRent {");
        W.due("it stands", source.contains("public final class DreamsPayRent {") ? 1 : 0, 1);
        W.due("all that is public stands in the face", count(source, "\\bpublic\\b"), Words.read().isEmpty() ? 33 : lines + 1);
    }

    /** The marks of the interface stand ahead of the calls that the document tells, in its order. */
    private static void theInterfaceSays() throws IOException {
        String source = source();
        Matcher m = Pattern.compile("(?m)^Ahead of the calls (.*) the interface says: (.*)\\.$").matcher(Words.read());
        int marks = 0;
        int at = 0;
        while (m.find()) {
            marks++;
            W.terms(m.group());
            int mark = source.indexOf("    // " + m.group(2) + "\n", at);
            W.due(m.group(2), mark >= at ? 1 : 0, 1);
            at = Math.max(at, mark);
            for (String call : m.group(1).split(", ")) {
                int place = source.indexOf(" " + call.replace("`", "") + "(", at);
                W.due(m.group(2) + ", then " + call, place > at ? 1 : 0, 1);
                at = Math.max(at, place);
            }
        }
        W.face("DreamsPayRent");
        W.due("marks", marks, Words.read().isEmpty() ? 0 : 6);
    }

    private static String source() throws IOException {
        return Files.readString(Path.of("src/main/java/DreamsPayRent.java"), StandardCharsets.US_ASCII);
    }

    private static int count(String text, String pattern) {
        return (int) Pattern.compile(pattern).matcher(text).results().count();
    }

    // ---- Not promised

    private static void answersAndStateChanges() {
        W.rest("Nothing is promised beyond the answers and state changes described above");
        DreamsPayRent x = let();
        DreamsPayRent y = new DreamsPayRent();
        W.due("another object has no DREAM of it", y.count(0), 0);
        W.due("nor a TEXT of it", y.count(4), 1);
        y.feed('r');
        y.set(2, 0, 40);
        y.sheet(SHEET, 0, 8);
        W.due("nor gives it a byte", x.count(5), 0);
        W.due("nor a SIZE", x.told(0, 2), 10);
        W.due("nor a SHEET", x.rents(SHEET, 0, 0), -11);
        W.due("nor A RULE", x.count(6), 1);
    }
}
