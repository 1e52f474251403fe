/** What the document says of walls and nights (Terms 2, promises 11 to 14): a test for each sentence. */
public final class NightWordsTest {
    private static final Words W = new Words("NightWordsTest");
    private static final int NONE = -1, BAD = -2, STATE = -3;
    private static final int MIN = Integer.MIN_VALUE, MAX = Integer.MAX_VALUE;
    private static final int DREAM = 0, SEA = 1, FLYING = 2, NIGHTMARE = 3, PARTY = 4, SIMPLE = 5;

    public static void main(String[] args) throws Exception {
        W.run(NightWordsTest.class);
    }

    /** One DREAM in ROOM 0, which PAYS v, of this PURSE, and OWES so much. */
    private static DreamsPayRent one(int v, int purse, int owe) {
        DreamsPayRent x = new DreamsPayRent();
        Check.lodger(x, DREAM, 0, 1, 0);
        Check.rule(x, "rents " + v + "; leaks 0; minds 0;");
        x.set(5, 0, purse);
        x.set(6, 0, owe);
        return x;
    }

    /** One in ROOM 0, one in ROOM 1: NUMBERS 2, 3; SPACES 5, 7. */
    private static DreamsPayRent neighbours() {
        DreamsPayRent x = new DreamsPayRent();
        Check.rule(x, "rents 20 + number; leaks space; minds number;");
        Check.lodger(x, DREAM, 2, 5, 0);
        Check.lodger(x, DREAM, 3, 7, 1);
        return x;
    }

    // ---- Terms: walls

    private static void leakIfNotLined() {
        W.terms("LEAK of a WALL: if it isn't LINED");
        DreamsPayRent x = neighbours();
        W.due("none LINED", x.leak(0), 29);
        x.set(0, 0, 1);
        W.due("it is LINED", x.leak(0), 0);
        x.set(0, 0, 1022);
        W.due("all others are LINED", x.leak(0), 29);
        x.set(0, 0, 1023);
        W.due("all are LINED", x.leak(0), 0);
        x.let(0, 7);
        x.let(1, 5);
        W.due("the last WALL is LINED", x.leak(9), 0);
        x.set(0, 0, 511);
        W.due("the last WALL is not", x.leak(9), 29);
    }

    private static void leakOfBoth() {
        W.terms("and DREAMS are in both ROOMS");
        DreamsPayRent x = neighbours();
        x.let(0, NONE);
        W.due("the one is out", x.leak(0), 0);
        x.let(0, 0);
        W.due("both are in", x.leak(0), 29);
        x.let(1, NONE);
        W.due("the other is out", x.leak(0), 0);
        x.let(0, NONE);
        W.due("both are out", x.leak(0), 0);
    }

    private static void leakOfEach() {
        W.terms("leaks of each times minds of the other one, together; else 0.");
        DreamsPayRent x = neighbours();
        W.due("5 times 3, and 7 times 2", x.leak(0), 29);
        x.set(3, 0, 0);
        W.due("5 times 3", x.leak(0), 15);
        x.set(3, 1, 0);
        W.due("nothing is minded", x.leak(0), 0);
        x.set(3, 0, 9);
        W.due("7 times 9", x.leak(0), 63);
        Check.rule(x, "rents 0; leaks 99; minds 9;");
        W.due("the most", x.leak(0), 1782);
        Check.rule(x, "rents 0; leaks 1; minds floor = 0;");
        W.due("each where it is", x.leak(0), 2);
        x.let(1, 2);
        W.due("through WALL 4", x.leak(4), 1);
    }

    private static void worths() {
        W.terms("WORTH: PAYS of all that are in ROOMS, together, less LEAK of all WALLS.");
        DreamsPayRent x = neighbours();
        W.due("22 and 23 less 29", x.worth(), 16);
        x.set(0, 0, 1);
        W.due("LINED", x.worth(), 45);
        x.set(0, 0, 0);
        Check.lodger(x, DREAM, 1, 2, 3);
        // through WALL 5: 7 times 1, and 2 times 3
        W.due("a third one: 21 more, less 13", x.worth(), 24);
        x.dream(PARTY, 9, 1);
        W.due("one that is out", x.worth(), 24);
        x.let(1, NONE);
        W.due("the one between them is out", x.worth(), 43);
        x.let(0, NONE);
        x.let(2, NONE);
        W.due("all are out", x.worth(), 0);
    }

    private static void worthBelowZero() {
        W.terms("WORTH: PAYS of all that are in ROOMS, together, less LEAK of all WALLS.");
        DreamsPayRent x = new DreamsPayRent();
        Check.rule(x, "rents 0; leaks 99; minds 9;");
        for (int i = 0; i < 5; i++) {
            Check.lodger(x, DREAM, 0, 1, i);
        }
        // WALLS 0, 1, 4, 5, 6 are between two
        W.due("the least", x.worth(), -5 * 1782);
    }

    // ---- Terms: a night

    private static void nightOfThoseInRooms() {
        W.terms("A NIGHT: DREAMS that are in ROOMS, by numbers");
        DreamsPayRent x = new DreamsPayRent();
        for (int i = 0; i < 5; i++) {
            x.dream(DREAM, 0, 1);
            if (i != 2) {
                x.let(i, 7 - i);
            }
        }
        Check.rule(x, "rents 10 * floor + size - 9; leaks 0; minds 0;");
        W.due("night()", x.night(), 0);
        int[] purses = {69, 69, 100, 79, 89};
        for (int i = 0; i < 5; i++) {
            W.due("PURSE of " + i, x.told(i, 5), purses[i]);
        }
        W.due("TAKEN", x.count(3), 31 + 31 + 21 + 11);
    }

    private static void purseIsEnough() {
        W.terms("if PURSE is what it PAYS or more, PURSE is so much less, TAKEN so much more");
        int[][] rows = {{30, 29, 29, 0, 30}, {30, 30, 0, 30, 0}, {30, 31, 1, 30, 0}, {0, 0, 0, 0, 0}, {1, 0, 0, 0, 1},
            {99, 9999, 9900, 99, 0}};
        for (int[] row : rows) {
            DreamsPayRent x = one(row[0], row[1], 0);
            x.night();
            W.due("PAYS " + row[0] + ", PURSE " + row[1] + ": PURSE then", x.told(0, 5), row[2]);
            W.due("TAKEN", x.count(3), row[3]);
            W.due("OWE", x.told(0, 6), row[4]);
        }
    }

    private static void takenGrows() {
        W.terms("if PURSE is what it PAYS or more, PURSE is so much less, TAKEN so much more");
        DreamsPayRent x = one(30, 100, 0);
        for (int i = 1; i <= 5; i++) {
            x.night();
            W.due("TAKEN after " + i, x.count(3), Math.min(i, 3) * 30);
        }
        W.due("PURSE", x.told(0, 5), 10);
    }

    private static void owesMore() {
        W.terms("else it OWES so much more (9999 at most)");
        int[][] rows = {{30, 0, 30}, {30, 9968, 9998}, {30, 9969, 9999}, {30, 9970, 9999}, {30, 9999, 9999}};
        for (int[] row : rows) {
            DreamsPayRent x = one(row[0], row[0] - 1, row[1]);
            x.night();
            W.due("PAYS " + row[0] + ", OWES " + row[1], x.told(0, 6), row[2]);
            W.due("PURSE", x.told(0, 5), row[0] - 1);
            W.due("TAKEN", x.count(3), 0);
        }
    }

    private static void owesTooMuch() {
        W.terms("if it OWES more than it BEARS then, it is out.");
        int[] bears = {20, 20, 23, 0, 23, 35};
        for (int kind = 0; kind < 6; kind++) {
            for (int more = -1; more <= 1; more++) {
                DreamsPayRent x = new DreamsPayRent();
                int room = kind == FLYING || kind == PARTY ? 6 : 0;
                Check.lodger(x, kind, 3, 1, room);
                x.set(5, 0, 0);
                int pays = x.would(0, room, 1);
                if (bears[kind] + more < pays) {
                    continue;
                }
                x.set(6, 0, bears[kind] + more - pays);
                W.due("KIND " + kind + " OWES " + more + " more than it BEARS", x.night(), more == 1 ? 1 : 0);
                W.due("its ROOM", x.told(0, 7), more == 1 ? NONE : room);
                W.due("OWE", x.told(0, 6), bears[kind] + more);
            }
        }
    }

    private static void aNightmareOwesNothing() {
        W.terms("if it OWES more than it BEARS then, it is out.");
        DreamsPayRent x = new DreamsPayRent();
        Check.lodger(x, NIGHTMARE, 0, 1, 0);
        x.set(5, 0, 4);
        W.due("it PAYS 5, has 4", x.night(), 1);
        x.let(0, 0);
        x.set(5, 0, 5);
        x.set(6, 0, 0);
        W.due("it PAYS 5, has 5", x.night(), 0);
        Check.rule(x, "rents 0; leaks 0; minds 0;");
        W.due("it PAYS 0, has 0", x.night(), 0);
    }

    /** These words stand behind both of what comes before: also of one that could pay. */
    private static void owesTooMuchFromBefore() {
        W.terms("if it OWES more than it BEARS then, it is out.");
        DreamsPayRent x = one(30, 100, 20);
        W.due("20 from before", x.night(), 0);
        x.set(6, 0, 21);
        W.due("21 from before", x.night(), 1);
        W.due("its PURSE", x.told(0, 5), 40);
        W.due("its ROOM", x.told(0, 7), NONE);
    }

    private static void oneThatIsOutOwesNoMore() {
        W.terms("if it OWES more than it BEARS then, it is out.");
        DreamsPayRent x = one(30, 0, 0);
        W.due("night()", x.night(), 1);
        W.due("another", x.night(), 0);
        W.due("OWE", x.told(0, 6), 30);
        W.due("who(0)", x.who(0), NONE);
        W.due("the ROOM has room", x.dream(DREAM, 0, 1), 1);
        W.due("for another one", x.let(1, 0), NONE);
    }

    private static void thenTheNight() {
        W.terms("Then THE NIGHT is 1 more.");
        DreamsPayRent x = new DreamsPayRent();
        Check.lodger(x, DREAM, 0, 1, 0);
        Check.lodger(x, DREAM, 0, 1, 1);
        Check.rule(x, "rents night; leaks 0; minds 0;");
        x.set(1, 0, 7);
        x.night();
        W.due("THE NIGHT", x.count(2), 8);
        W.due("the first one PAYS by the NIGHT that was", x.told(0, 5), 93);
        W.due("the second too", x.told(1, 5), 93);
        x.night();
        W.due("THE NIGHT", x.count(2), 9);
        W.due("TAKEN", x.count(3), 30);
    }

    // ---- Terms: a run

    private static void runOfNights() {
        W.terms("RUN of n NIGHTS (0 .. 60)");
        DreamsPayRent x = one(1, 9999, 0);
        W.due("-1", x.run(-1, 0), BAD);
        W.due("0", x.run(0, 0), 0);
        W.due("1", x.run(1, 0), 1);
        W.due("60", x.run(60, 0), 60);
        W.due("61", x.run(61, 0), BAD);
    }

    private static void runInThought() {
        W.terms("in thought (there NIGHT may pass 999)");
        DreamsPayRent x = new DreamsPayRent();
        Check.lodger(x, DREAM, 0, 1, 0);
        Check.rule(x, "rents night - 990; leaks 0; minds 0;");
        x.set(5, 0, 9999);
        x.set(1, 0, 999);
        W.due("NIGHTS 999, 1000, 1001", x.run(3, 0), 9 + 10 + 11);
        W.due("60 NIGHTS, to 1058", x.run(60, 10), 9999 - (9 + 68) * 30);
        W.due("THE NIGHT", x.count(2), 999);
        W.due("TAKEN", x.count(3), 0);
        W.due("PURSE", x.told(0, 5), 9999);
        x.set(5, 0, 0);
        x.run(60, 0);
        W.due("OWE", x.told(0, 6), 0);
        W.due("ROOM", x.told(0, 7), 0);
    }

    private static void takenInThem() {
        W.terms("what is TAKEN in them");
        DreamsPayRent x = one(30, 200, 0);
        x.night();
        x.night();
        W.due("none in none", x.run(0, 0), 0);
        W.due("in one, without those ahead", x.run(1, 0), 30);
        W.due("in 60", x.run(60, 0), 120);
        W.due("TAKEN as it was", x.count(3), 60);
    }

    private static void whoIsOutFirst() {
        W.terms("who is out first (NONE), in which of them (from 0)");
        DreamsPayRent x = new DreamsPayRent();
        for (int i = 0; i < 3; i++) {
            Check.lodger(x, DREAM, 0, 1, i == 2 ? 4 : i);
        }
        Check.rule(x, "rents 30; leaks 0; minds 0;");
        int[][] rows = { // PURSES, then who, in which
            {29, 29, 29, 0, 0}, {30, 29, 29, 1, 0}, {30, 30, 29, 2, 0}, {30, 30, 30, 0, 1}, {90, 60, 60, 1, 2},
            {9999, 9999, 1770, 2, 59}, {9999, 9999, 1800, NONE, NONE},
        };
        for (int[] row : rows) {
            for (int i = 0; i < 3; i++) {
                x.set(5, i, row[i]);
            }
            W.due("PURSES " + row[0] + ", " + row[1] + ", " + row[2] + ": who", x.run(60, 1), row[3]);
            W.due("in which", x.run(60, 2), row[4]);
        }
        x.let(0, NONE);
        W.due("one that is out already is not it", x.run(0, 1), NONE);
        x.set(5, 2, 29);
        W.due("in none nobody is", x.run(0, 1), NONE);
        W.due("nor in any", x.run(0, 2), NONE);
        W.due("in one NIGHT", x.run(1, 1), 2);
    }

    private static void inAtLast() {
        W.terms("how many are in at last.");
        DreamsPayRent x = new DreamsPayRent();
        for (int i = 0; i < 4; i++) {
            x.dream(DREAM, 0, 1);
            x.set(5, i, 30 * i);
            if (i != 3) {
                x.let(i, i);
            }
        }
        Check.rule(x, "rents 30; leaks 0; minds 0;");
        int[] wants = {3, 2, 1, 0, 0};
        for (int n = 0; n < wants.length; n++) {
            W.due("after " + n, x.run(n, 3), wants[n]);
        }
    }

    // ---- Promise 11: leak

    private static void leakOfAWall() {
        W.promise(11, "LEAK of a WALL.");
        DreamsPayRent x = neighbours();
        W.due("leak(0)", x.leak(0), 29);
        for (int wall = 1; wall < 10; wall++) {
            W.due("leak(" + wall + ")", x.leak(wall), 0);
        }
    }

    private static void leakIsBad() {
        W.promise(11, "BAD.");
        DreamsPayRent x = neighbours();
        for (int wall : new int[] {-1, 10, MIN, MAX}) {
            W.due("leak(" + wall + ")", x.leak(wall), BAD);
        }
    }

    // ---- Promise 12: worth

    private static void worth() {
        W.promise(12, "WORTH.");
        W.due("of a new object", new DreamsPayRent().worth(), 0);
        W.due("of two", neighbours().worth(), 16);
    }

    // ---- Promise 13: night

    private static void nightTruly() {
        W.promise(13, "A NIGHT, truly: how many are put out in it.");
        DreamsPayRent x = new DreamsPayRent();
        W.due("of nobody", x.night(), 0);
        for (int i = 0; i < 5; i++) {
            Check.lodger(x, NIGHTMARE, 9, 1, i < 4 ? i : 7);
        }
        W.due("all pay", x.night(), 0);
        x.set(5, 1, 0);
        x.set(5, 3, 0);
        x.set(5, 4, 0);
        W.due("three don't", x.night(), 3);
        W.due("two are in", x.count(1), 2);
        W.due("those who are out are not put out again", x.night(), 0);
        x.set(5, 0, 0);
        x.set(5, 2, 0);
        W.due("the two others", x.night(), 2);
        W.due("THE NIGHT", x.count(2), 5);
    }

    private static void allFiveArePutOut() {
        W.promise(13, "A NIGHT, truly: how many are put out in it.");
        DreamsPayRent x = new DreamsPayRent();
        for (int i = 0; i < 5; i++) {
            Check.lodger(x, NIGHTMARE, 9, 1, i < 4 ? i : 7);
            x.set(5, i, 0);
        }
        W.due("all five", x.night(), 5);
    }

    private static void nightIsState() {
        W.promise(13, "STATE: THE NIGHT is 999.");
        DreamsPayRent x = one(30, 100, 0);
        x.set(1, 0, 998);
        W.due("from 998", x.night(), 0);
        W.due("from 999", x.night(), STATE);
        W.due("THE NIGHT", x.count(2), 999);
        W.due("PURSE", x.told(0, 5), 70);
        W.due("TAKEN", x.count(3), 30);
        x.set(5, 0, 0);
        W.due("again", x.night(), STATE);
        W.due("OWE", x.told(0, 6), 0);
        W.due("ROOM", x.told(0, 7), 0);
    }

    // ---- Promise 14: run

    private static void runTaken() {
        W.promise(14, "RUN: TAKEN in it (what 0)");
        W.due("of 3 NIGHTS", one(30, 100, 0).run(3, 0), 90);
        W.due("of 4 NIGHTS", one(30, 100, 0).run(4, 0), 90);
        W.due("of nobody", new DreamsPayRent().run(60, 0), 0);
    }

    private static void runFirst() {
        W.promise(14, "who is out first (1; NONE)");
        W.due("of 3 NIGHTS", one(30, 100, 0).run(3, 1), NONE);
        W.due("of 4 NIGHTS", one(30, 100, 0).run(4, 1), 0);
        W.due("of nobody", new DreamsPayRent().run(60, 1), NONE);
    }

    private static void runWhich() {
        W.promise(14, "in which (2; NONE)");
        W.due("of 3 NIGHTS", one(30, 100, 0).run(3, 2), NONE);
        W.due("of 4 NIGHTS", one(30, 100, 0).run(4, 2), 3);
        W.due("of 60 NIGHTS", one(30, 100, 0).run(60, 2), 3);
        W.due("of nobody", new DreamsPayRent().run(60, 2), NONE);
    }

    private static void runAtLast() {
        W.promise(14, "how many are in at last (3)");
        W.due("of 3 NIGHTS", one(30, 100, 0).run(3, 3), 1);
        W.due("of 4 NIGHTS", one(30, 100, 0).run(4, 3), 0);
        W.due("of nobody", new DreamsPayRent().run(60, 3), 0);
    }

    private static void runPurse() {
        W.promise(14, "of DREAM what less 10: PURSE at last (10 ..).");
        DreamsPayRent x = new DreamsPayRent();
        for (int i = 0; i < 5; i++) {
            W.due("no such DREAM " + i, x.run(1, 10 + i), BAD);
            x.dream(SIMPLE, 9, 1);
            x.set(5, i, 10 * i + 5);
            if (i != 4) {
                x.let(i, i);
            }
        }
        Check.rule(x, "rents 10; leaks 0; minds 0;");
        int[] wants = {5, 5, 5, 15, 45};
        for (int i = 0; i < 5; i++) {
            W.due("of " + i + ", no NIGHT", x.run(0, 10 + i), 10 * i + 5);
            W.due("of " + i + ", 2 NIGHTS", x.run(2, 10 + i), wants[i]);
        }
        W.due("no such DREAM 5", x.run(2, 15), BAD);
        W.due("PURSE as it was", x.told(3, 5), 35);
    }

    private static void runIsBad() {
        W.promise(14, "BAD.");
        DreamsPayRent x = one(30, 100, 0);
        for (int what : new int[] {-1, 4, 5, 9, 11, MIN, MAX}) {
            W.due("run(1, " + what + ")", x.run(1, what), BAD);
        }
        for (int n : new int[] {-1, 61, MIN, MAX}) {
            for (int what : new int[] {0, 1, 2, 3, 10}) {
                W.due("run(" + n + ", " + what + ")", x.run(n, what), BAD);
            }
        }
    }
}
