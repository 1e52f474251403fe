/** Promises 19 to 25: rents, film, drawn, chance, image, back, count. */
public final class RentsTest {
    private static final Check CHECK = new Check("RentsTest");
    private static final int DREAM = 0, SEA = 1, FLYING = 2, NIGHTMARE = 3, PARTY = 4, SIMPLE = 5;

    public static void main(String[] args) {
        rentsByTheFirstRule();
        rentsOfOtherRooms();
        rentsOfNumbersAndTexts();
        rentsOfNights();
        rentsOfSpaces();
        rentsOfSorts();
        rentsRefuse();
        rentsChangeNothing();
        aFilm();
        filmRefuses();
        purses();
        drawnTakes();
        drawnIsInThought();
        chances();
        chanceRefuses();
        imageKeeps();
        imageIsKeptOnce();
        imageLeaves();
        counts();
        CHECK.end();
    }

    private static void rents(String of, DreamsPayRent x, int dream, int... wants) {
        for (int what = 0; what < 8; what++) {
            CHECK.due("19 " + of + ": rents(1, " + dream + ", " + what + ")", x.rents(1, dream, what), wants[what]);
        }
    }

    private static void rentsByTheFirstRule() {
        int[][] pays = { // of each kind with NUMBER 3, SIZES 10
            {10, 10, 11, 11, 12, 12, 13, 13}, {13, 13, 14, 14, 15, 15, 16, 16}, {20, 20, 22, 22, 24, 24, 26, 26},
            {6, 6, 7, 7, 7, 7, 8, 8}, {23, 23, 25, 25, 27, 27, 29, 29}, {10, 10, 11, 11, 12, 12, 13, 13},
        };
        int[] kinds = {33, 2, 4, 8, 16, 33};
        int[] numbers = {1023, 8, 1023, 8, 8, 1023};
        for (int kind = 0; kind < 6; kind++) {
            DreamsPayRent x = new DreamsPayRent();
            x.dream(kind, 3, 20);
            Check.row(x, 1, pays[kind]);
            rents("kind " + kind, x, 0, -1, kinds[kind], numbers[kind], 1, 100, 0, 20, 1);
            // another one's rents, told of this one: the other KINDS are read back all the same
            x.dream((kind + 1) % 6, 3, 1);
            CHECK.due("19 KINDS of another", x.rents(1, 1, 1), kinds[kind]);
        }
    }

    private static void rentsOfOtherRooms() {
        for (int room = 0; room < 8; room++) {
            DreamsPayRent x = new DreamsPayRent();
            x.dream(DREAM, 3, 20);
            x.film(1, 0);
            x.cell(1, room, 77);
            rents("room " + room, x, 0, room, 0, 0, 0, 0, -1, 0, -1);
            x.set(2, room, 40);
            CHECK.due("19 SIZE is another", x.rents(1, 0, 0), room);
        }
    }

    private static void rentsOfNumbersAndTexts() {
        DreamsPayRent x = new DreamsPayRent();
        x.dream(SEA, 2, 1);
        Check.text(x, "rents 5; leaks 0; minds 0;");
        Check.text(x, "rents number + 3; leaks 0; minds 0;");
        Check.text(x, "rents 4; leaks 0; minds 0;");
        Check.text(x, "rents 5 + (number < 2); leaks 1; minds 1;");
        x.force(1);
        Check.row(x, 1, 7, 7, 7, 7, 7, 7, 7, 7);
        // TEXTS 1, 2, 4 tell 5, and 2 more
        rents("like texts", x, 0, -1, 2, 4, 2 + 4 + 16, 100, 0, 20, 1);
        Check.row(x, 1, 9, 9, 9, 9, 9, 9, 9, 9);
        rents("another NUMBER", x, 0, 0, 0, 16, 0, 0, -1, 0, -1);
        Check.row(x, 1, 10, 10, 10, 10, 10, 10, 10, 10);
        rents("another KIND", x, 0, 0, 4, 32, 0, 0, -1, 0, -1);
        x.force(4);
        Check.row(x, 1, 7, 7, 7, 7, 7, 7, 7, 7);
        // NUMBER 1 tells 6, and 1 more
        rents("by a truth", x, 0, -1, 2, 2 + 4, 2 + 4 + 16, 100, 0, 20, 1);
        Check.text(x, "rents 5; leaks 0; minds 0;");
        CHECK.due("19 all six TEXTS", x.rents(1, 0, 3), 2 + 4 + 16 + 32);
    }

    private static void rentsOfNights() {
        DreamsPayRent x = new DreamsPayRent();
        x.dream(FLYING, 2, 1);
        Check.rule(x, "rents 60 * (9 < night) * (night < 40) + (night = 99) * 5; leaks 0; minds 0;");
        Check.row(x, 1, 120, 120, 120, 120, 120, 120, 120, 120);
        rents("NIGHTS 10 to 39", x, 0, 0, 0, 0, 0, 30, 10, 0, -1);
        x.set(1, 0, 20);
        rents("NIGHT 20", x, 0, -1, 4, 1023, 2, 30, 10, 20, 1);
        Check.row(x, 1, 10, 10, 10, 10, 10, 10, 10, 10);
        rents("NIGHT 99", x, 0, 0, 0, 0, 0, 1, 99, 0, -1);
        Check.rule(x, "rents night = 100; leaks 0; minds 0;");
        x.set(1, 0, 100);
        Check.row(x, 1, 2, 2, 2, 2, 2, 2, 2, 2);
        rents("NIGHT 100", x, 0, -1, 4, 1023, 4, 0, -1, 20, 1);
    }

    private static void rentsOfSpaces() {
        DreamsPayRent x = new DreamsPayRent();
        x.dream(DREAM, 2, 20);
        Check.rule(x, "rents (6 < space) * 3 + (space = 20); leaks 0; minds 0;");
        Check.row(x, 1, 3, 3, 3, 3, 3, 3, 3, 3);
        // by SPACE 20 they tell 4: a NIGHTMARE of NUMBER 2 would pay 3
        rents("SPACES 7 to 19", x, 0, 0, 8, 0, 0, 0, -1, 13, 7);
        Check.row(x, 1, 4, 4, 4, 4, 4, 4, 4, 4);
        rents("SPACE 20", x, 0, -1, 33, 1023, 2, 100, 0, 1, 20);
        Check.row(x, 1, 0, 0, 0, 0, 0, 0, 0, 0);
        rents("SPACES 1 to 6", x, 0, 0, 0, 0, 0, 0, -1, 6, 1);
        Check.rule(x, "rents owes; leaks 0; minds 0;");
        x.set(6, 0, 55);
        Check.row(x, 1, 55, 55, 55, 55, 55, 55, 55, 55);
        CHECK.due("19 what it OWES", x.rents(1, 0, 0), -1);
    }

    private static void rentsOfSorts() {
        DreamsPayRent x = new DreamsPayRent();
        x.dream(PARTY, 9, 1);
        Check.rule(x, "rents 99; leaks 0; minds 0;");
        for (int sort = 0; sort < 3; sort++) {
            x.sheet(1, sort, 8);
            for (int i = 0; i < 8; i++) {
                x.cell(1, i, 207);
            }
            // a byte of 207 is -49
            CHECK.due("19 sort " + sort, x.rents(1, 0, 0), sort == 0 ? 0 : -1);
        }
    }

    private static void rentsRefuse() {
        DreamsPayRent x = new DreamsPayRent();
        x.dream(DREAM, 0, 1);
        x.sheet(0, 1, 7);
        x.sheet(2, 1, 9);
        x.sheet(3, 1, 0);
        CHECK.due("19 no SHEET -1", x.rents(-1, 0, 0), -2);
        CHECK.due("19 no SHEET 4", x.rents(4, 0, 0), -2);
        CHECK.due("19 no DREAM, ahead of -11", x.rents(1, 1, 0), -2);
        CHECK.due("19 no DREAM -1", x.rents(1, -1, 0), -2);
        CHECK.due("19 what 8, ahead of -11", x.rents(1, 0, 8), -2);
        CHECK.due("19 what -1", x.rents(1, 0, -1), -2);
        CHECK.due("19 missing", x.rents(1, 0, 0), -11);
        CHECK.due("19 7", x.rents(0, 0, 0), -2);
        CHECK.due("19 9", x.rents(2, 0, 0), -2);
        CHECK.due("19 0", x.rents(3, 0, 7), -2);
    }

    private static void rentsChangeNothing() {
        DreamsPayRent x = new DreamsPayRent();
        x.dream(SEA, 3, 7);
        x.set(1, 0, 50);
        x.film(1, 0);
        for (int what = 0; what < 8; what++) {
            x.rents(1, 0, what);
        }
        CHECK.due("19 KIND", x.told(0, 8), SEA);
        CHECK.due("19 NUMBER", x.told(0, 3), 3);
        CHECK.due("19 SPACE", x.told(0, 4), 7);
        CHECK.due("19 THE NIGHT", x.told(0, 1), 50);
        CHECK.due("19 THE RULE", x.count(6), 0);
    }

    private static void aFilm() {
        DreamsPayRent x = new DreamsPayRent();
        x.dream(FLYING, 5, 20);
        x.dream(NIGHTMARE, 5, 20);
        x.set(2, 3, 40);
        x.sheet(1, 2, 40);
        CHECK.due("20 film", x.film(1, 0), 8);
        CHECK.due("20 it tells 8", x.cell(1, 8, 0), -12);
        Check.row(x, 2, 20, 20, 22, 82, 24, 24, 26, 26);
        CHECK.due("20 ints are unlike", x.copy(2, 0, 1, 0, 1), -13);
        x.sheet(2, 1, 8);
        CHECK.due("20 shorts are like", x.copy(1, 0, 2, 0, 8), 8);
        rents("the film", x, 0, -1, 4, 1023, 1, 100, 0, 20, 1);
        Check.row(x, 1, 20, 20, 22, 82, 24, 24, 26, 26);
        rents("by hand", x, 0, -1, 4, 1023, 1, 100, 0, 20, 1);
        CHECK.due("20 film of the other", x.film(1, 1), 8);
        CHECK.due("20 is read back", x.rents(1, 1, 1), 8);
        CHECK.due("20 of one that is missing", x.film(3, 1), 8);
        CHECK.due("20 is read back", x.rents(3, 1, 0), -1);
    }

    private static void filmRefuses() {
        DreamsPayRent x = new DreamsPayRent();
        x.dream(DREAM, 0, 1);
        CHECK.due("20 film(4, 0)", x.film(4, 0), -2);
        CHECK.due("20 film(-1, 0)", x.film(-1, 0), -2);
        CHECK.due("20 film(0, 1)", x.film(0, 1), -2);
        CHECK.due("20 film(0, -1)", x.film(0, -1), -2);
        CHECK.due("20 the SHEET is missing still", x.cell(0, 0, 0), -11);
    }

    private static int draw(int z) {
        return z * 1103515245 + 12345;
    }

    /** One pays 1 a night and never OWES too much: what it has, 20 at most, is taken. */
    private static void purses() {
        for (int seed : new int[] {0, 1, 5, -77, 12345, 99, 777777, Integer.MAX_VALUE, Integer.MIN_VALUE}) {
            DreamsPayRent x = new DreamsPayRent();
            Check.rule(x, "rents 9 + space; leaks 0; minds 0;");
            int z = seed;
            int want = 0;
            for (int dream = 0; dream < 5; dream++) {
                x.dream(SIMPLE, 9, dream + 1);
                if (dream != 2) {
                    x.let(dream, dream);
                }
                z = draw(z);
                int purse = (z >>> 9) % 200;
                int pays = 10 + dream;
                want += dream == 2 ? 0 : Math.min(20, purse / pays) * pays;
            }
            // one OWES 6 nights' rent at most, and by then it pays no more
            CHECK.due("21 drawn(" + seed + ")", x.drawn(seed), want);
        }
    }

    private static void drawnTakes() {
        CHECK.due("21 no DREAMS", new DreamsPayRent().drawn(7), 0);
        DreamsPayRent x = new DreamsPayRent();
        x.dream(DREAM, 0, 1);
        CHECK.due("21 nobody in", x.drawn(7), 0);
        x.let(0, 0);
        x.set(6, 0, 21);
        CHECK.due("21 for one night", x.drawn(0), 10);
    }

    private static void drawnIsInThought() {
        DreamsPayRent x = new DreamsPayRent();
        Check.lodger(x, DREAM, 0, 1, 0);
        x.night();
        x.set(1, 0, 999);
        int first = x.drawn(0);
        CHECK.due("21 PURSE 24: two nights", first, 20);
        CHECK.due("21 again", x.drawn(0), first);
        CHECK.due("21 PURSE", x.told(0, 5), 90);
        CHECK.due("21 THE NIGHT", x.told(0, 1), 999);
        CHECK.due("21 TAKEN", x.count(3), 10);
        CHECK.due("21 in", x.told(0, 7), 0);
    }

    /** How many of n seeds draw at least that much for one DREAM. */
    private static int seedsOf(int seed, int n, int least) {
        int good = 0;
        for (int i = 0; i < n; i++) {
            if ((draw(seed + i) >>> 9) % 200 >= least) {
                good++;
            }
        }
        return good;
    }

    private static void chances() {
        DreamsPayRent x = new DreamsPayRent();
        CHECK.due("22 nobody", x.chance(3, 20, 0), 1);
        CHECK.due("22 nobody", x.chance(3, 20, 1), 1);
        Check.lodger(x, DREAM, 0, 1, 0);
        Check.rule(x, "rents 7; leaks 0; minds 0;");
        // 20 nights cost 140; it BEARS to owe 2 of them
        for (int seed : new int[] {0, 9, -3, 1000, Integer.MAX_VALUE - 5, Integer.MIN_VALUE}) {
            for (int n = 1; n <= 20; n++) {
                int good = seedsOf(seed, n, 126);
                int shared = java.math.BigInteger.valueOf(good).gcd(java.math.BigInteger.valueOf(n)).intValue();
                CHECK.due("22 chance(" + seed + ", " + n + ", 0)", x.chance(seed, n, 0), good / shared);
                CHECK.due("22 chance(" + seed + ", " + n + ", 1)", x.chance(seed, n, 1), n / shared);
            }
        }
        CHECK.due("22 PURSE", x.told(0, 5), 100);
        CHECK.due("22 TAKEN", x.count(3), 0);
        x.set(6, 0, 21);
        CHECK.due("22 none", x.chance(0, 20, 0), 0);
        CHECK.due("22 none of 1", x.chance(0, 20, 1), 1);
        x.let(0, -1);
        CHECK.due("22 one that is out is not put out", x.chance(0, 20, 0), 1);
    }

    private static void chanceRefuses() {
        DreamsPayRent x = new DreamsPayRent();
        long no = -4611686018427387904L;
        CHECK.due("22 n 0", x.chance(0, 0, 0), no);
        CHECK.due("22 n -1", x.chance(0, -1, 0), no);
        CHECK.due("22 n 21", x.chance(0, 21, 0), no);
        CHECK.due("22 part 2", x.chance(0, 1, 2), no);
        CHECK.due("22 part -1", x.chance(0, 1, -1), no);
    }

    private static void imageKeeps() {
        DreamsPayRent x = new DreamsPayRent();
        Check.lodger(x, DREAM, 1, 2, 0);
        x.dream(PARTY, 3, 4);
        Check.text(x, "rents 1; leaks 0; minds 0;");
        int[][] first = {{0, 0, 9}, {1, 0, 8}, {2, 0, 7}, {2, 7, 6}, {3, 0, 5}, {3, 1, 4}, {4, 0, 3}, {4, 1, 2},
            {5, 0, 11}, {5, 1, 12}, {6, 0, 13}, {6, 1, 14}};
        for (int[] row : first) {
            x.set(row[0], row[1], row[2]);
        }
        x.force(1);
        x.night();
        CHECK.due("23 image", x.image(), 2);
        for (int turn = 0; turn < 2; turn++) {
            for (int[] row : first) {
                x.set(row[0], row[1], 1);
            }
            x.let(0, 3);
            x.let(1, 5);
            x.force(0);
            x.night();
            x.dream(SEA, 0, 1);
            x.set(5, 2, 1);
            x.set(6, 2, 50);
            x.let(2, 0);
            CHECK.due("24 back", x.back(), 2);
            for (int[] row : first) {
                int want = row[0] == 1 ? 9 : row[0] == 5 && row[1] == 0 ? 10 : row[2];
                CHECK.due("24 set " + row[0] + " of " + row[1], x.told(row[1], row[0]), want);
            }
            CHECK.due("24 ROOM", x.told(0, 7), 0);
            CHECK.due("24 out", x.told(1, 7), -1);
            CHECK.due("24 DREAMS", x.count(0), 2);
            CHECK.due("24 THE NIGHT", x.count(2), 9);
            CHECK.due("24 TAKEN", x.count(3), 1);
            CHECK.due("24 THE RULE", x.count(6), 1);
            CHECK.due("24 one that came is gone", x.told(2, 8), -2);
        }
        CHECK.due("24 one that comes then", x.dream(FLYING, 7, 8), 2);
        CHECK.due("24 its KIND", x.told(2, 8), FLYING);
        CHECK.due("24 it is out", x.told(2, 7), -1);
        CHECK.due("24 its PURSE", x.told(2, 5), 100);
        CHECK.due("24 it OWES", x.told(2, 6), 0);
    }

    private static void imageIsKeptOnce() {
        DreamsPayRent x = new DreamsPayRent();
        CHECK.due("24 STATE", x.back(), -3);
        CHECK.due("23 of no DREAMS", x.image(), 0);
        Check.lodger(x, DREAM, 0, 1, 4);
        CHECK.due("24 to none", x.back(), 0);
        CHECK.due("24 who", x.who(4), -1);
        x.dream(SEA, 0, 1);
        CHECK.due("23 another one", x.image(), 1);
        x.let(0, 1);
        CHECK.due("24 to the later one", x.back(), 1);
        CHECK.due("24 KIND", x.told(0, 8), SEA);
        CHECK.due("24 out", x.told(0, 7), -1);
    }

    private static void imageLeaves() {
        DreamsPayRent x = new DreamsPayRent();
        x.image();
        Check.text(x, "rents 1; leaks 0; minds 0;");
        x.feed('r');
        x.sheet(0, 0, 3);
        x.back();
        CHECK.due("24 TEXTS stay", x.count(4), 2);
        CHECK.due("24 THE TAPE stays", x.count(5), 1);
        CHECK.due("24 SHEETS stay", x.cell(0, 2, 1), 1);
    }

    private static void counts() {
        DreamsPayRent x = new DreamsPayRent();
        Check.lodger(x, DREAM, 0, 1, 0);
        Check.lodger(x, DREAM, 0, 1, 5);
        x.dream(DREAM, 0, 1);
        x.night();
        Check.rule(x, "rents 1; leaks 0; minds 0;");
        Check.text(x, "rents 1; leaks 0; minds 0;");
        x.feed('r');
        x.feed('e');
        x.feed('n');
        x.feed('t');
        int[] wants = {3, 2, 1, 22, 3, 4, 1};
        for (int what = 0; what < wants.length; what++) {
            CHECK.due("25 count(" + what + ")", x.count(what), wants[what]);
        }
        CHECK.due("25 count(7)", x.count(7), -2);
        CHECK.due("25 count(-1)", x.count(-1), -2);
    }
}
