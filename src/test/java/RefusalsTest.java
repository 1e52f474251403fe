import java.util.LinkedHashMap;
import java.util.Map;
import java.util.function.ToLongFunction;

/** Every refusal of the document: what is answered, and that all that can be seen of the object is as it was. */
public final class RefusalsTest {
    private static final Words W = new Words("RefusalsTest");
    private static final int NONE = -1, BAD = -2, STATE = -3, FULL = -4;
    private static final int MISSING = -11, OUTSIDE = -12, OTHER_SORT = -13, BELOW_ZERO = -14, NOT_ANSWERED = -100000;
    private static final long NO = -4611686018427387904L;
    private static final String THE_WORDS = "Refusals, the first that the call's words name; they change nothing";

    public static void main(String[] args) throws Exception {
        W.run(RefusalsTest.class);
    }

    private final Map<String, ToLongFunction<DreamsPayRent>> calls = new LinkedHashMap<>();
    private final Map<String, Long> wants = new LinkedHashMap<>();

    private void add(long want, String name, ToLongFunction<DreamsPayRent> call) {
        calls.put(name, call);
        wants.put(name, want);
    }

    /** Two DREAMS are in, one is out; there are TEXTS, SHEETS of all sorts and none, some bytes of THE TAPE, an IMAGE. */
    private static DreamsPayRent some() {
        DreamsPayRent x = new DreamsPayRent();
        Check.rule(x, "rents size + night; leaks space; minds number;");
        Check.lodger(x, 1, 2, 5, 0);
        x.dream(2, 3, 11);
        x.set(2, 3, 30);
        x.set(0, 0, 6);
        x.image();
        Check.lodger(x, 0, 4, 7, 1);
        x.set(5, 0, 60);
        x.set(6, 1, 9);
        x.set(1, 0, 20);
        x.night();
        Check.text(x, "rents 5; leaks 5; minds 5;");
        x.film(0, 0);
        x.sheet(1, 0, 3);
        x.cell(1, 0, 41);
        x.cell(1, 2, 43);
        x.film(3, 2);
        Check.row(x, 3, 41, 41, 41, 41, 41, 41, 41, 41);
        x.feed('?');
        return x;
    }

    /** All that can be full is: five DREAMS, 6 TEXTS, THE TAPE, THE NIGHT; there is no IMAGE. */
    private static DreamsPayRent full() {
        DreamsPayRent x = new DreamsPayRent();
        for (int i = 1; i <= 5; i++) {
            Check.text(x, "rents" + i + ";leaks5;minds5;");
        }
        for (int i = 0; i < 160; i++) {
            x.feed(';');
        }
        for (int i = 0; i < 5; i++) {
            x.dream(0, i, 2 + i);
            x.let(i, i);
        }
        x.set(1, 0, 999);
        x.set(2, 4, 5);
        x.sheet(0, 0, 40);
        return x;
    }

    /** All that can be seen, in the end by changing it. */
    private static String seen(DreamsPayRent x) {
        StringBuilder s = new StringBuilder();
        dreamsSeen(x, s);
        s.append(" SHEETS");
        for (int sheet = 0; sheet < 4; sheet++) {
            for (int n : new int[] {0, 3, 8, 40}) {
                s.append(' ').append(x.copy(sheet, n, sheet, n, 0)).append(' ').append(x.copy(sheet, n, sheet, n, 1));
            }
            for (int sort = 0; sort < 3; sort++) {
                s.append(' ').append(x.dreams(sheet, sort, 0, 0));
            }
            for (int what = 0; what < 8; what++) {
                s.append(' ').append(x.rents(sheet, 0, what));
            }
        }
        s.append(" TAPE ").append(x.count(5)).append(' ').append(x.text()).append(' ').append(x.count(5));
        s.append(" BYTES");
        x.set(1, 0, 0);
        x.force(1);
        for (int room = 0; room < 8; room++) {
            x.set(2, room, 1);
        }
        s.append(' ').append(x.rents(3, 2, 5));
        for (int i = 0; i < 3; i++) {
            x.sheet(2, 0, 8);
            for (int room = 0; room < 8; room++) {
                x.copy(1, i, 2, room, 1);
            }
            s.append(' ').append(x.rents(2, 2, 5));
        }
        s.append(" BACK ").append(x.back());
        dreamsSeen(x, s);
        return s.toString();
    }

    private static void dreamsSeen(DreamsPayRent x, StringBuilder s) {
        for (int dream = 0; dream < 5; dream++) {
            for (int what = 3; what <= 8; what++) {
                s.append(' ').append(x.told(dream, what));
            }
        }
        s.append(" ROOMS");
        for (int room = 0; room < 8; room++) {
            s.append(' ').append(x.told(room, 2));
        }
        s.append(" LINED ").append(x.told(0, 0)).append(" COUNTS");
        for (int what = 0; what < 7; what++) {
            s.append(' ').append(x.count(what));
        }
        s.append(" WORTH ").append(x.worth()).append(" PAYS ").append(x.would(0, 7, 1));
    }

    private void answerAndChangeNothing(boolean isFull) {
        String before = seen(isFull ? full() : some());
        for (Map.Entry<String, ToLongFunction<DreamsPayRent>> one : calls.entrySet()) {
            DreamsPayRent x = isFull ? full() : some();
            W.due(one.getKey(), one.getValue().applyAsLong(x), wants.get(one.getKey()));
            W.same("after " + one.getKey(), seen(x), before);
        }
    }

    private static void whatIsSeen() {
        W.terms(THE_WORDS);
        String before = seen(some());
        Map<String, ToLongFunction<DreamsPayRent>> truly = new LinkedHashMap<>();
        truly.put("set(0, 0, 7)", x -> x.set(0, 0, 7));
        truly.put("set(1, 0, 22)", x -> x.set(1, 0, 22));
        truly.put("set(2, 7, 11)", x -> x.set(2, 7, 11));
        truly.put("set(3, 2, 5)", x -> x.set(3, 2, 5));
        truly.put("set(4, 2, 8)", x -> x.set(4, 2, 8));
        truly.put("set(5, 1, 99)", x -> x.set(5, 1, 99));
        truly.put("set(6, 1, 8)", x -> x.set(6, 1, 8));
        truly.put("dream(0, 0, 1)", x -> x.dream(0, 0, 1));
        truly.put("let(0, NONE)", x -> x.let(0, NONE));
        truly.put("feed(32)", x -> x.feed(32));
        truly.put("text()", x -> x.text());
        truly.put("force(0)", x -> x.force(0));
        truly.put("night()", x -> x.night());
        truly.put("film(2, 0)", x -> x.film(2, 0));
        truly.put("image()", x -> x.image());
        truly.put("back()", x -> x.back());
        truly.put("sheet(2, 0, 0)", x -> x.sheet(2, 0, 0));
        truly.put("sheet(0, -1, 0)", x -> x.sheet(0, -1, 0));
        truly.put("cell(0, 7, 1)", x -> x.cell(0, 7, 1));
        truly.put("cell(1, 1, 1)", x -> x.cell(1, 1, 1));
        truly.put("cell(3, 0, 1)", x -> x.cell(3, 0, 1));
        truly.put("copy(1, 0, 1, 1, 2)", x -> x.copy(1, 0, 1, 1, 2));
        for (Map.Entry<String, ToLongFunction<DreamsPayRent>> one : truly.entrySet()) {
            DreamsPayRent x = some();
            one.getValue().applyAsLong(x);
            W.due(one.getKey() + " can be seen", seen(x).equals(before) ? 0 : 1, 1);
        }
    }

    private static void refusalsOfTheHouse() {
        W.terms(THE_WORDS);
        RefusalsTest t = new RefusalsTest();
        t.add(BAD, "set(0, 0, 1024)", x -> x.set(0, 0, 1024));
        t.add(BAD, "set(0, 0, -1)", x -> x.set(0, 0, -1));
        t.add(BAD, "set(1, 0, 1000)", x -> x.set(1, 0, 1000));
        t.add(BAD, "set(2, 0, 0)", x -> x.set(2, 0, 0));
        t.add(BAD, "set(2, 0, 41)", x -> x.set(2, 0, 41));
        t.add(BAD, "set(2, 8, 5)", x -> x.set(2, 8, 5));
        t.add(BAD, "set(3, 0, 10)", x -> x.set(3, 0, 10));
        t.add(BAD, "set(3, 3, 1)", x -> x.set(3, 3, 1));
        t.add(BAD, "set(4, 0, 0)", x -> x.set(4, 0, 0));
        t.add(BAD, "set(4, 0, 21)", x -> x.set(4, 0, 21));
        t.add(BAD, "set(5, 0, 10000)", x -> x.set(5, 0, 10000));
        t.add(BAD, "set(6, 0, 10000)", x -> x.set(6, 0, 10000));
        t.add(BAD, "set(7, 0, 1)", x -> x.set(7, 0, 1));
        t.add(BAD, "dream(6, 0, 1)", x -> x.dream(6, 0, 1));
        t.add(BAD, "dream(0, 10, 1)", x -> x.dream(0, 10, 1));
        t.add(BAD, "dream(0, 0, 21)", x -> x.dream(0, 0, 21));
        t.add(BAD, "let(3, 5)", x -> x.let(3, 5));
        t.add(BAD, "let(0, 8)", x -> x.let(0, 8));
        t.add(BAD, "let(0, -2)", x -> x.let(0, -2));
        t.add(STATE, "let(0, 7), a SEA", x -> x.let(0, 7));
        t.add(STATE, "let(1, 4), it NEEDS too much", x -> x.let(1, 4));
        t.add(STATE, "let(1, 0), ahead of FULL", x -> x.let(1, 0));
        t.add(FULL, "let(2, 0)", x -> x.let(2, 0));
        t.add(FULL, "let(0, 1)", x -> x.let(0, 1));
        t.add(BAD, "told(3, 3)", x -> x.told(3, 3));
        t.add(BAD, "would(0, 8, 0)", x -> x.would(0, 8, 0));
        t.add(BAD, "who(8)", x -> x.who(8));
        t.answerAndChangeNothing(false);
    }

    private static void refusalsOfTextsAndNights() {
        W.terms(THE_WORDS);
        RefusalsTest t = new RefusalsTest();
        t.add(BAD, "feed(256)", x -> x.feed(256));
        t.add(BAD, "feed(-1)", x -> x.feed(-1));
        t.add(BAD, "force(3)", x -> x.force(3));
        t.add(BAD, "force(-1)", x -> x.force(-1));
        t.add(BAD, "leak(10)", x -> x.leak(10));
        t.add(BAD, "run(61, 0)", x -> x.run(61, 0));
        t.add(BAD, "run(60, 13)", x -> x.run(60, 13));
        t.add(NOT_ANSWERED, "best(4)", x -> x.best(4));
        t.add(NOT_ANSWERED, "change(2)", x -> x.change(2));
        t.add(NOT_ANSWERED, "putOut(2)", x -> x.putOut(2));
        t.add(NOT_ANSWERED, "line(2)", x -> x.line(2));
        t.answerAndChangeNothing(false);
    }

    private static void refusalsOfSheets() {
        W.terms(THE_WORDS);
        RefusalsTest t = new RefusalsTest();
        t.add(BAD, "rents(4, 0, 0)", x -> x.rents(4, 0, 0));
        t.add(BAD, "rents(1, 0, 0)", x -> x.rents(1, 0, 0));
        t.add(MISSING, "rents(2, 0, 0)", x -> x.rents(2, 0, 0));
        t.add(BAD, "film(4, 0)", x -> x.film(4, 0));
        t.add(BAD, "film(0, 3)", x -> x.film(0, 3));
        t.add(NO, "chance(0, 21, 0)", x -> x.chance(0, 21, 0));
        t.add(NO, "chance(0, 20, 2)", x -> x.chance(0, 20, 2));
        t.add(BAD, "count(7)", x -> x.count(7));
        t.add(BAD, "sheet(0, 3, 1)", x -> x.sheet(0, 3, 1));
        t.add(BAD, "sheet(0, 0, 41)", x -> x.sheet(0, 0, 41));
        t.add(BELOW_ZERO, "sheet(0, 0, -1)", x -> x.sheet(0, 0, -1));
        t.add(BAD, "cell(4, 0, 1)", x -> x.cell(4, 0, 1));
        t.add(MISSING, "cell(2, 0, 1)", x -> x.cell(2, 0, 1));
        t.add(OUTSIDE, "cell(1, 3, 1)", x -> x.cell(1, 3, 1));
        t.add(BAD, "copy(1, 0, 4, 0, 1)", x -> x.copy(1, 0, 4, 0, 1));
        t.add(MISSING, "copy(1, 0, 2, 0, 1)", x -> x.copy(1, 0, 2, 0, 1));
        t.add(OTHER_SORT, "copy(1, 0, 0, 0, 1)", x -> x.copy(1, 0, 0, 0, 1));
        t.add(OUTSIDE, "copy(1, 0, 1, 1, 3)", x -> x.copy(1, 0, 1, 1, 3));
        t.add(OUTSIDE, "copy(0, 0, 0, 1, -1)", x -> x.copy(0, 0, 0, 1, -1));
        t.add(BAD, "dreams(1, 0, 0, 6)", x -> x.dreams(1, 0, 0, 6));
        t.add(OTHER_SORT, "dreams(1, 1, 0, 1)", x -> x.dreams(1, 1, 0, 1));
        t.add(MISSING, "dreams(2, 0, 0, 1)", x -> x.dreams(2, 0, 0, 1));
        t.add(OUTSIDE, "dreams(1, 0, 1, 1)", x -> x.dreams(1, 0, 1, 1));
        t.add(BAD, "taken(0, 6)", x -> x.taken(0, 6));
        t.add(MISSING, "taken(3, 0)", x -> x.taken(3, 0));
        t.add(OTHER_SORT, "taken(0, 2)", x -> x.taken(0, 2));
        t.answerAndChangeNothing(false);
    }

    private static void refusalsOfWhatIsFull() {
        W.terms(THE_WORDS);
        RefusalsTest t = new RefusalsTest();
        t.add(FULL, "dream(0, 0, 1)", x -> x.dream(0, 0, 1));
        t.add(BAD, "dream(0, 0, 0)", x -> x.dream(0, 0, 0));
        t.add(FULL, "feed(32)", x -> x.feed(32));
        t.add(BAD, "feed(256)", x -> x.feed(256));
        t.add(FULL, "text()", x -> x.text());
        t.add(STATE, "night()", x -> x.night());
        t.add(STATE, "back()", x -> x.back());
        t.add(STATE, "let(0, 4)", x -> {
            x.set(4, 0, 6);
            long answer = x.let(0, 4);
            x.set(4, 0, 2);
            return answer;
        });
        t.add(FULL, "let(0, 1)", x -> x.let(0, 1));
        t.add(BAD, "dreams(0, 0, 0, 6)", x -> x.dreams(0, 0, 0, 6));
        t.answerAndChangeNothing(true);
    }

    /** What is only asked, or only thought, changes nothing either. */
    private static void whatIsOnlyAsked() {
        W.terms(THE_WORDS);
        String before = seen(some());
        Map<String, ToLongFunction<DreamsPayRent>> asked = new LinkedHashMap<>();
        asked.put("leak(0)", x -> x.leak(0));
        asked.put("worth()", x -> x.worth());
        asked.put("run(60, 0)", x -> x.run(60, 0));
        asked.put("run(60, 10)", x -> x.run(60, 10));
        asked.put("best(0)", x -> x.best(0));
        asked.put("change(0)", x -> x.change(0));
        asked.put("putOut(0)", x -> x.putOut(0));
        asked.put("line(0)", x -> x.line(0));
        for (int what = 0; what < 8; what++) {
            int asks = what;
            asked.put("rents(0, 0, " + what + ")", x -> x.rents(0, 0, asks));
        }
        asked.put("drawn(5)", x -> x.drawn(5));
        asked.put("chance(5, 20, 0)", x -> x.chance(5, 20, 0));
        asked.put("count(3)", x -> x.count(3));
        asked.put("taken(0, 0)", x -> x.taken(0, 0));
        asked.put("told(0, 9)", x -> x.told(0, 9));
        asked.put("would(0, 0, 1)", x -> x.would(0, 0, 1));
        asked.put("who(0)", x -> x.who(0));
        asked.put("let(0, 0), where it is", x -> x.let(0, 0));
        asked.put("force(1), as it is", x -> x.force(1));
        asked.put("dreams(1, 0, 9, 0), none", x -> x.dreams(1, 0, 9, 0));
        asked.put("copy(1, 3, 1, 0, 0), none", x -> x.copy(1, 3, 1, 0, 0));
        for (Map.Entry<String, ToLongFunction<DreamsPayRent>> one : asked.entrySet()) {
            DreamsPayRent x = some();
            one.getValue().applyAsLong(x);
            W.same("after " + one.getKey(), seen(x), before);
        }
    }

    private static void fiveHundredAndTwelveCalls() {
        W.face("An object is used for at most 512 calls after it has been made");
        DreamsPayRent x = new DreamsPayRent();
        int calls = 0;
        for (int i = 0; i < 500; i++) {
            calls++;
            W.due("call " + calls, x.set(1, 0, i), Math.max(0, i - 1));
        }
        W.due("call 501", x.dream(0, 1, 1), 0);
        W.due("call 502", x.let(0, 7), NONE);
        W.due("call 503", x.best(0), 13);
        W.due("call 504", x.run(60, 0), 91);
        W.due("call 505", x.chance(0, 20, 0), 0);
        W.due("call 506", x.film(0, 0), 8);
        W.due("call 507", x.rents(0, 0, 4), 100);
        W.due("call 508", x.image(), 1);
        W.due("call 509", x.night(), 0);
        W.due("call 510", x.back(), 1);
        W.due("call 511", x.told(0, 5), 100);
        W.due("call 512", x.count(2), 499);
    }
}
