import java.util.Random;

/** All promises: long runs of drawn calls (of fixed seeds), each answer compared with Reference's. */
public final class RandomTest {
    private static final Check CHECK = new Check("RandomTest");
    private static final int RUNS = 1500, CALLS = 512, BESTS = 3;
    private static final String[] PIECES = {
        "size", "floor", "night", "number", "owes", "space", "0", "1", "2", "7", "15", "40", "9999", "12345",
        "+", "-", "*", "<", "=", "(", ")", "and", "or", "not", ";", "rents", "leaks", "minds", "siz", "?", " ", "\n",
    };

    private final Random random;
    private final int run;
    private final DreamsPayRent x = new DreamsPayRent();
    private final Reference y = new Reference();
    private int bests;
    private int calls;

    private RandomTest(int run) {
        this.run = run;
        random = new Random(run);
    }

    public static void main(String[] args) {
        for (int run = 0; run < RUNS; run++) {
            RandomTest test = new RandomTest(run);
            test.begin();
            while (test.calls < CALLS) {
                test.call();
            }
        }
        CHECK.end();
    }

    /** What is answered behind the last call is free. */
    private void due(String call, long got, long want) {
        calls++;
        if (calls <= CALLS) {
            CHECK.due("run " + run + " call " + calls + " " + call, got, want);
        }
    }

    private int upTo(int most) {
        return random.nextInt(most + 1);
    }

    /** Mostly from least to most, at times a little or far outside. */
    private int about(int least, int most) {
        int luck = upTo(60);
        if (luck == 0) {
            return random.nextInt();
        }
        if (luck == 1) {
            return least - 1;
        }
        if (luck == 2) {
            return most + 1;
        }
        return least + upTo(most - least);
    }

    private int aDream() {
        return about(0, Math.max(0, y.now.dreams.size() - 1));
    }

    /** Texts and dreams first, so that most calls find some. */
    private void begin() {
        int texts = upTo(2);
        for (int i = 0; i < texts; i++) {
            feedText();
        }
        int dreams = upTo(5);
        for (int i = 0; i < dreams; i++) {
            dream();
            let();
        }
        force();
    }

    private void call() {
        int which = upTo(29);
        if (which < 11) {
            callHouse(which);
        } else if (which < 21) {
            callBest(which);
        } else {
            callHost(which);
        }
    }

    private void callHouse(int which) {
        switch (which) {
            case 0: set(); break;
            case 1: dream(); break;
            case 2:
            case 3: let(); break;
            case 4: told(); break;
            case 5: would(); break;
            case 6: who(); break;
            case 7: feedSome(); break;
            case 8: force(); break;
            case 9: leak(); break;
            default: due("worth()", x.worth(), y.worth()); break;
        }
    }

    private void callBest(int which) {
        switch (which) {
            case 11: night(); break;
            case 12: run(); break;
            case 13: best(); break;
            case 14: two("change", 0); break;
            case 15: two("putOut", 1); break;
            case 16: two("line", 2); break;
            case 17:
            case 18: rents(); break;
            case 19: film(); break;
            default: drawn(); break;
        }
    }

    private void callHost(int which) {
        switch (which) {
            case 21: chance(); break;
            case 22: imageOrBack(); break;
            case 23: count(); break;
            case 24: sheet(); break;
            case 25: cell(); break;
            case 26: copy(); break;
            case 27: dreams(); break;
            case 28: taken(); break;
            default: bend(); break;
        }
    }

    private void set() {
        int what = about(0, 6);
        int[] mosts = {1023, 999, 40, 9, 20, 250, 60};
        int most = what >= 0 && what <= 6 ? mosts[what] : 9;
        int of = what == 2 ? about(0, 7) : aDream();
        int v = upTo(15) == 0 ? about(9990, 9999) : about(what == 2 || what == 4 ? 1 : 0, most);
        due("set(" + what + ", " + of + ", " + v + ")", x.set(what, of, v), y.set(what, of, v));
    }

    private void dream() {
        int kind = about(0, 5), number = about(0, 9), space = upTo(2) == 0 ? about(1, 20) : about(1, 8);
        due("dream(" + kind + ", " + number + ", " + space + ")", x.dream(kind, number, space),
            y.dream(kind, number, space));
    }

    private void let() {
        int dream = aDream(), room = about(upTo(5) == 0 ? -1 : 0, 7);
        due("let(" + dream + ", " + room + ")", x.let(dream, room), y.let(dream, room));
    }

    private void told() {
        int what = about(0, 10), of = what == 2 ? about(0, 7) : aDream();
        due("told(" + of + ", " + what + ")", x.told(of, what), y.told(of, what));
    }

    private void would() {
        int dream = aDream(), room = about(0, 7), what = about(0, 3);
        due("would(" + dream + ", " + room + ", " + what + ")", x.would(dream, room, what), y.would(dream, room, what));
    }

    private void who() {
        int room = about(0, 7);
        due("who(" + room + ")", x.who(room), y.who(room));
    }

    private void feed(String letters) {
        for (int i = 0; i < letters.length(); i++) {
            int c = letters.charAt(i);
            due("feed(" + c + ")", x.feed(c), y.feed(c));
        }
    }

    private void text() {
        due("text() of '" + y.tape + "'", x.text(), y.text());
    }

    private void feedText() {
        feed("rents " + e(2) + ";leaks " + e(1) + ";minds " + e(1) + ";");
        text();
    }

    /** A text that is right, one with pieces left out, put in or changed, or any byte. */
    private void feedSome() {
        int luck = upTo(7);
        if (luck == 0) {
            feedText();
        } else if (luck <= 3) {
            StringBuilder s = new StringBuilder("rents " + e(2) + "; leaks " + e(0) + "; minds 1;");
            for (int i = upTo(2); i >= 0; i--) {
                int at = upTo(s.length());
                s.replace(at, Math.min(s.length(), at + upTo(3)), PIECES[upTo(PIECES.length - 1)]);
            }
            feed(s.toString());
            text();
        } else if (luck == 4) {
            StringBuilder s = new StringBuilder("rents ");
            for (int i = upTo(20); i >= 0; i--) {
                s.append(PIECES[upTo(PIECES.length - 1)]);
            }
            feed(s.toString());
            text();
        } else if (luck == 5) {
            int c = about(0, 255);
            due("feed(" + c + ")", x.feed(c), y.feed(c));
        } else {
            text();
        }
    }

    private String e(int depth) {
        if (depth <= 0) {
            return PIECES[upTo(11)];
        }
        String[] signs = {"+", "-", "*", "<", "=", " and ", " or ", "+", "-", "*"};
        int luck = upTo(9);
        if (luck == 0) {
            return "-" + e(depth - 1);
        }
        if (luck == 1) {
            return "not " + e(depth - 1);
        }
        if (luck == 2) {
            return "(" + e(depth) + ")";
        }
        return e(depth - 1) + signs[upTo(9)] + e(depth - 1);
    }

    private void force() {
        int text = about(0, y.texts.size() - 1);
        due("force(" + text + ")", x.force(text), y.force(text));
    }

    private void leak() {
        int wall = about(0, 9);
        due("leak(" + wall + ")", x.leak(wall), y.leak(wall));
    }

    private void night() {
        due("night()", x.night(), y.night());
    }

    private void run() {
        int n = about(0, 60), what = upTo(2) == 0 ? 10 + aDream() : about(0, 3);
        due("run(" + n + ", " + what + ")", x.run(n, what), y.run(n, what));
    }

    /** Few of these: the reference tries all ways. */
    private void best() {
        if (bests >= BESTS) {
            int what = y.now.dreams.size() + 1;
            due("best(" + what + ")", x.best(what), y.best(what));
            return;
        }
        bests++;
        int worth = y.best(0);
        int[] best = y.best;
        due("best(0)", x.best(0), worth);
        for (int i = 1; i < best.length; i++) {
            due("best(" + i + ")", x.best(i), best[i]);
        }
    }

    private void two(String call, int which) {
        for (int i = 0; i < 2; i++) {
            int what = about(0, 1);
            long got = which == 0 ? x.change(what) : which == 1 ? x.putOut(what) : x.line(what);
            long want = which == 0 ? y.change(what) : which == 1 ? y.putOut(what) : y.line(what);
            due(call + "(" + what + ")", got, want);
        }
    }

    private void rents() {
        int sheet = about(0, 3), dream = aDream();
        if (upTo(2) != 0) {
            due("film(" + sheet + ", " + dream + ")", x.film(sheet, dream), y.film(sheet, dream));
        }
        if (upTo(2) == 0) {
            set();
        }
        for (int i = upTo(8); i >= 0; i--) {
            int what = about(0, 7);
            due("rents(" + sheet + ", " + dream + ", " + what + ")", x.rents(sheet, dream, what),
                y.rents(sheet, dream, what));
        }
    }

    private void film() {
        int sheet = about(0, 3), dream = aDream();
        due("film(" + sheet + ", " + dream + ")", x.film(sheet, dream), y.film(sheet, dream));
    }

    private void drawn() {
        int seed = upTo(1) == 0 ? random.nextInt() : about(-20, 20);
        due("drawn(" + seed + ")", x.drawn(seed), y.drawn(seed));
    }

    private void chance() {
        int seed = upTo(1) == 0 ? random.nextInt() : about(-20, 20), n = about(1, 20), part = about(0, 1);
        due("chance(" + seed + ", " + n + ", " + part + ")", x.chance(seed, n, part), y.chance(seed, n, part));
    }

    private void imageOrBack() {
        if (upTo(1) == 0) {
            due("image()", x.image(), y.image());
        } else {
            due("back()", x.back(), y.back());
        }
    }

    private void count() {
        int what = about(0, 6);
        due("count(" + what + ")", x.count(what), y.count(what));
    }

    private void sheet() {
        int sheet = about(0, 3), sort = about(upTo(4) == 0 ? -1 : 0, 2);
        int n = upTo(2) == 0 ? 8 : about(0, 40);
        due("sheet(" + sheet + ", " + sort + ", " + n + ")", x.sheet(sheet, sort, n), y.sheet(sheet, sort, n));
    }

    private void cell() {
        int sheet = about(0, 3);
        for (int i = upTo(3); i >= 0; i--) {
            int at = about(0, 9), v = upTo(9) == 0 ? random.nextInt() : about(0, 9);
            due("cell(" + sheet + ", " + at + ", " + v + ")", x.cell(sheet, at, v), y.cell(sheet, at, v));
        }
    }

    private void copy() {
        int sheet = about(0, 3), i = about(0, 12), other = about(0, 3), j = about(0, 12), n = about(0, 10);
        due("copy(" + sheet + ", " + i + ", " + other + ", " + j + ", " + n + ")", x.copy(sheet, i, other, j, n),
            y.copy(sheet, i, other, j, n));
    }

    private void dreams() {
        int sheet = about(0, 3), sort = about(0, 2), from = about(0, 9), n = about(0, 5);
        if (upTo(1) == 0) {
            due("sheet(" + sheet + ", " + sort + ", 12)", x.sheet(sheet, sort, 12), y.sheet(sheet, sort, 12));
            for (int i = 0; i < 12; i++) {
                int v = about(1, 6);
                due("cell(" + sheet + ", " + i + ", " + v + ")", x.cell(sheet, i, v), y.cell(sheet, i, v));
            }
        }
        due("dreams(" + sheet + ", " + sort + ", " + from + ", " + n + ")", x.dreams(sheet, sort, from, n),
            y.dreams(sheet, sort, from, n));
    }

    private void taken() {
        int dream = aDream(), k = about(0, 5);
        due("taken(" + dream + ", " + k + ")", x.taken(dream, k), y.taken(dream, k));
    }

    /** A cell of a told row is bent a little, and all is read back. */
    private void bend() {
        int sheet = upTo(3), dream = aDream(), room = upTo(7), v = upTo(60);
        due("film(" + sheet + ", " + dream + ")", x.film(sheet, dream), y.film(sheet, dream));
        due("cell(" + sheet + ", " + room + ", " + v + ")", x.cell(sheet, room, v), y.cell(sheet, room, v));
        for (int what = 0; what < 8; what++) {
            due("rents(" + sheet + ", " + dream + ", " + what + ")", x.rents(sheet, dream, what),
                y.rents(sheet, dream, what));
        }
    }
}
