/** What the document says of told rents, drawn purses, images (Terms 2, promises 19 to 25): a test for each sentence. */
public final class RentWordsTest {
    private static final Words W = new Words("RentWordsTest");
    private static final int NONE = -1, BAD = -2, STATE = -3, MISSING = -11;
    private static final int MIN = Integer.MIN_VALUE, MAX = Integer.MAX_VALUE;
    private static final long NO = -4611686018427387904L;
    private static final int DREAM = 0, SEA = 1, FLYING = 2, NIGHTMARE = 3, PARTY = 4, SIMPLE = 5;

    public static void main(String[] args) throws Exception {
        W.run(RentWordsTest.class);
    }

    /** A DREAM of this KIND, NUMBER 3, SPACE 4, by this rule of rents. */
    private static DreamsPayRent ruled(int kind, String rents) {
        DreamsPayRent x = new DreamsPayRent();
        x.dream(kind, 3, 4);
        Check.rule(x, "rents " + rents + "; leaks 0; minds 0;");
        return x;
    }

    /** The SHEET 1 tells the same in all ROOMS. */
    private static void tells(DreamsPayRent x, int v) {
        Check.row(x, 1, v, v, v, v, v, v, v, v);
    }

    private static void rents(String of, DreamsPayRent x, int what, int want) {
        W.due(of + ": rents(1, 0, " + what + ")", x.rents(1, 0, what), want);
    }

    // ---- Terms: told rents

    private static void eightNumbers() {
        W.terms("TOLD RENTS: a SHEET tells what a DREAM PAYS in ROOMS 0 .. 7, whether it FITS or not (8 numbers)");
        for (int kind = 0; kind < 6; kind++) {
            DreamsPayRent x = new DreamsPayRent();
            x.dream(kind, 3, 20);
            int[] pays = new int[8];
            for (int room = 0; room < 8; room++) {
                x.set(2, room, 1 + room * 2);
                pays[room] = x.would(0, room, 1);
            }
            Check.row(x, 1, pays);
            rents("KIND " + kind + ", which FITS nowhere", x, 0, NONE);
            for (int n : new int[] {0, 7, 9, 40}) {
                x.sheet(1, 2, n);
                rents(n + " numbers", x, 0, BAD);
            }
        }
    }

    private static void theFirstRoomOtherwise() {
        W.terms("the first ROOM that is otherwise; NONE;");
        for (int room = 0; room < 8; room++) {
            DreamsPayRent x = ruled(DREAM, "10 * floor + size");
            x.film(1, 0);
            rents("as it is", x, 0, NONE);
            x.cell(1, 7, 1);
            rents("the last is otherwise", x, 0, 7);
            x.cell(1, room, x.would(0, room, 1) + 1);
            rents("1 more in " + room, x, 0, room);
            x.cell(1, room, x.would(0, room, 1) - 1);
            rents("1 less in " + room, x, 0, room);
        }
    }

    private static void kindsByBits() {
        W.terms("KINDS (bits 0 .. 5)");
        int[] tells = {20, 23, 40, 11, 43, 20};
        int[] bits = {1 + 32, 2, 4, 8, 16, 1 + 32};
        for (int kind = 0; kind < 6; kind++) {
            for (int of = 0; of < 6; of++) {
                DreamsPayRent x = ruled(of, "20");
                tells(x, tells[kind]);
                rents("KIND " + kind + " told of KIND " + of, x, 1, bits[kind]);
            }
        }
        DreamsPayRent x = ruled(PARTY, "0");
        x.set(3, 0, 0);
        tells(x, 0);
        rents("all pay nothing", x, 1, 63);
        tells(x, 1);
        rents("none pays 1", x, 1, 0);
    }

    private static void numbersByBits() {
        W.terms("NUMBERS (bits 0 .. 9)");
        for (int number = 0; number < 10; number++) {
            DreamsPayRent x = ruled(SEA, "20");
            tells(x, 20 + number);
            rents("NUMBER " + number + " of a SEA", x, 2, 1 << number);
            x = ruled(DREAM, "number * 2");
            tells(x, number * 2);
            rents("NUMBER " + number + " by the rule", x, 2, 1 << number);
        }
        DreamsPayRent x = ruled(SEA, "20");
        tells(x, 30);
        rents("NUMBER 10", x, 2, 0);
        tells(x, 19);
        rents("NUMBER -1", x, 2, 0);
        x = ruled(DREAM, "20");
        tells(x, 20);
        rents("any", x, 2, 1023);
        x = ruled(NIGHTMARE, "20");
        tells(x, 11);
        rents("half of 22, half of 23", x, 2, 4 + 8);
    }

    private static void textsByBits() {
        W.terms("TEXTS (bits), were they THE RULE");
        DreamsPayRent x = ruled(FLYING, "7");
        x.set(1, 0, 3);
        tells(x, 14);
        rents("TEXTS 0, 1", x, 3, 2);
        Check.text(x, "rents night + 4; leaks 9; minds 9;");
        rents("TEXTS 0, 1, 2", x, 3, 2 + 4);
        Check.text(x, "rents 8; leaks 0; minds 0;");
        Check.text(x, "rents space + number; leaks 0; minds 0;");
        Check.text(x, "rents 14 * (number = 3) - 7; leaks 0; minds 0;");
        rents("all six", x, 3, 2 + 4 + 16 + 32);
        x.force(3);
        rents("whichever is THE RULE", x, 3, 2 + 4 + 16 + 32);
        x.film(1, 0);
        rents("of TEXT 3", x, 3, 8);
        x.force(0);
        x.film(1, 0);
        rents("of TEXT 0", x, 3, 1);
        tells(x, 15);
        rents("of none", x, 3, 0);
    }

    private static void nightsHowManyAndLeast() {
        W.terms("NIGHTS (of 0 .. 99: how many, the least)");
        int[][] rows = { // v, how many, the least
            {0, 1, 0}, {1, 1, 1}, {98, 1, 98}, {99, 1, 99}, {100, 0, NONE},
        };
        for (int[] row : rows) {
            DreamsPayRent x = ruled(DREAM, "5 * (night = " + row[0] + ")");
            x.set(1, 0, 500);
            tells(x, 5);
            rents("NIGHT " + row[0], x, 4, row[1]);
            rents("NIGHT " + row[0], x, 5, row[2]);
            tells(x, 0);
            rents("not NIGHT " + row[0], x, 4, 100 - row[1]);
            rents("not NIGHT " + row[0], x, 5, row[0] == 0 ? 1 : 0);
        }
        DreamsPayRent x = ruled(DREAM, "5 * (41 < night) * (night < 97)");
        tells(x, 5);
        rents("NIGHTS 42 to 96", x, 4, 55);
        rents("NIGHTS 42 to 96", x, 5, 42);
        tells(x, 6);
        rents("none", x, 4, 0);
        rents("none", x, 5, NONE);
    }

    private static void spacesHowManyAndLeast() {
        W.terms("SPACES (of 1 .. 20: how many, the least) by which all would be so.");
        int[][] rows = {{0, 0, NONE}, {1, 1, 1}, {2, 1, 2}, {19, 1, 19}, {20, 1, 20}, {21, 0, NONE}};
        for (int[] row : rows) {
            DreamsPayRent x = ruled(DREAM, "5 * (space = " + row[0] + ")");
            tells(x, 5);
            rents("SPACE " + row[0], x, 6, row[1]);
            rents("SPACE " + row[0], x, 7, row[2]);
            tells(x, 0);
            rents("not SPACE " + row[0], x, 6, 20 - row[1]);
            rents("not SPACE " + row[0], x, 7, row[0] == 1 ? 2 : 1);
        }
        DreamsPayRent x = ruled(DREAM, "5 * (4 < space) * (space < 13)");
        tells(x, 5);
        rents("SPACES 5 to 12", x, 6, 8);
        rents("SPACES 5 to 12", x, 7, 5);
    }

    private static void allOfThem() {
        W.terms("by which all would be so.");
        for (int room = 0; room < 8; room++) {
            DreamsPayRent x = ruled(DREAM, "20");
            tells(x, 20);
            x.cell(1, room, 21);
            int[] wants = {room, 0, 0, 0, 0, NONE, 0, NONE};
            for (int what = 0; what < 8; what++) {
                rents("all but ROOM " + room, x, what, wants[what]);
            }
        }
    }

    // ---- Terms: drawn purses

    private static int draw(int z) {
        return z * 1103515245 + 12345;
    }

    /** The PURSES by which the SEED is right, seen by a rent of each that takes them whole or not at all. */
    private static void pursesOfAll() {
        W.terms("DRAWN by a SEED: PURSES of all DREAMS, in order, would be (z >>> 9) % 200, z being z * 1103515245 + 12345"
            + " (an int; SEED at first) anew for each");
        for (int seed : new int[] {0, 1, -1, 12345, -987654321, MAX, MIN}) {
            for (int dream = 0; dream < 5; dream++) {
                int z = seed;
                for (int i = 0; i <= dream; i++) {
                    z = draw(z);
                }
                int purse = (z >>> 9) % 200;
                DreamsPayRent x = new DreamsPayRent();
                for (int i = 0; i < 5; i++) {
                    x.dream(SIMPLE, 9, 1);
                }
                x.let(dream, 0);
                // one that PAYS 1 a night 20 times has 20 or more
                Check.rule(x, "rents 1; leaks 0; minds 0;");
                W.due("SEED " + seed + ", PURSE of " + dream + ", by 1", x.drawn(seed), Math.min(20, purse));
                if (purse >= 20 && purse <= 99 * 20) {
                    int most = Math.min(99, purse);
                    Check.rule(x, "rents " + most + "; leaks 0; minds 0;");
                    W.due("SEED " + seed + ", PURSE of " + dream + ", by " + most, x.drawn(seed), purse / most * most);
                }
            }
        }
    }

    private static void drawnOfThoseInRooms() {
        W.terms("DRAWN by a SEED: PURSES of all DREAMS, in order");
        DreamsPayRent x = new DreamsPayRent();
        W.due("of nobody", x.drawn(5), 0);
        x.dream(SIMPLE, 9, 1);
        W.due("one that is out pays nothing", x.drawn(5), 0);
        x.dream(SIMPLE, 9, 1);
        x.let(1, 0);
        Check.rule(x, "rents 1; leaks 0; minds 0;");
        for (int seed = 0; seed < 30; seed++) {
            W.due("the second of two, the first is out", x.drawn(seed), Math.min(20, (draw(draw(seed)) >>> 9) % 200));
        }
    }

    private static void twentyNights() {
        W.terms("TAKEN in a RUN of 20 NIGHTS.");
        DreamsPayRent x = new DreamsPayRent();
        Check.lodger(x, SIMPLE, 9, 1, 0);
        Check.rule(x, "rents 1; leaks 0; minds 0;");
        int seed = 0;
        for (int i = 0; i < 1000 && (draw(seed) >>> 9) % 200 < 100; i++) {
            seed++;
        }
        x.night();
        W.due("PURSE 100 or more, 1 a NIGHT", x.drawn(seed), 20);
        Check.rule(x, "rents night = 19; leaks 0; minds 0;");
        x.set(1, 0, 0);
        W.due("NIGHT 19 is in it", x.drawn(seed), 1);
        Check.rule(x, "rents night = 20; leaks 0; minds 0;");
        W.due("NIGHT 20 is not", x.drawn(seed), 0);
        Check.rule(x, "rents night = 1018; leaks 0; minds 0;");
        x.set(1, 0, 999);
        W.due("NIGHT may pass 999", x.drawn(seed), 1);
        W.due("PURSE as it was", x.told(0, 5), 99);
        W.due("TAKEN as it was", x.count(3), 1);
        W.due("THE NIGHT as it was", x.count(2), 999);
    }

    // ---- Terms: n seeds

    /** One that PAYS 9 a night, and BEARS 2 of them owed: it stays with 162 or more. */
    private static DreamsPayRent nine() {
        DreamsPayRent x = new DreamsPayRent();
        Check.lodger(x, DREAM, 0, 1, 0);
        Check.rule(x, "rents 9; leaks 0; minds 0;");
        return x;
    }

    private static int good(int seed, int n) {
        int good = 0;
        for (int i = 0; i < n; i++) {
            good += (draw(seed + i) >>> 9) % 200 >= 162 ? 1 : 0;
        }
        return good;
    }

    private static int shared(int a, int b) {
        return b == 0 ? a : shared(b, a % b);
    }

    private static void seedsInOrder() {
        W.terms("IN n seeds (1 .. 20), SEED and each 1 more (an int)");
        DreamsPayRent x = nine();
        for (int seed : new int[] {0, 17, -9, 4000, MAX - 7, MAX, MIN}) {
            for (int n : new int[] {1, 2, 3, 7, 12, 19, 20}) {
                int of = shared(good(seed, n), n);
                W.due(n + " from " + seed + ": above", x.chance(seed, n, 0), good(seed, n) / of);
                W.due(n + " from " + seed + ": below", x.chance(seed, n, 1), n / of);
            }
        }
    }

    private static void nobodyIsPutOut() {
        W.terms("of these those by which nobody is put out in it.");
        DreamsPayRent x = nine();
        int seed = 0;
        for (int i = 0; i < 1000 && good(seed, 1) == 0; i++) {
            seed++;
        }
        W.due("it stays", x.chance(seed, 1, 0), 1);
        Check.lodger(x, NIGHTMARE, 0, 1, 1);
        // a NIGHTMARE PAYS 4 a night, and BEARS nothing: it stays with 80 or more
        int both = 0;
        for (int i = 0; i < 20; i++) {
            int z = draw(seed + i);
            both += (z >>> 9) % 200 >= 162 && (draw(z) >>> 9) % 200 >= 80 ? 1 : 0;
        }
        W.due("both stay", x.chance(seed, 20, 0), both / shared(both, 20));
        x.let(0, NONE);
        x.let(1, NONE);
        W.due("those who are out are not put out", x.chance(seed, 20, 0), 1);
        W.due("of 1", x.chance(seed, 20, 1), 1);
        x.let(0, 0);
        x.set(6, 0, 21);
        W.due("it is put out in the first", x.chance(seed, 20, 0), 0);
    }

    // ---- Terms: an image

    /** Something is set after the image, and is as in it again. */
    private static void imageOf(int what, int of) {
        DreamsPayRent x = new DreamsPayRent();
        for (int i = 0; i < 5; i++) {
            x.dream(DREAM, 3, 4);
        }
        x.set(what, of, 8);
        x.image();
        x.set(what, of, 9);
        x.back();
        W.due("told(" + of + ", " + what + ")", x.told(of, what), 8);
        x.set(what, of, 9);
        x.back();
        W.due("told(" + of + ", " + what + "), back again", x.told(of, what), 8);
    }

    private static void imageKeepsSizes() {
        W.terms("AN IMAGE keeps SIZES");
        for (int room = 0; room < 8; room++) {
            imageOf(2, room);
        }
    }

    private static void imageKeepsLined() {
        W.terms("LINED WALLS");
        imageOf(0, 0);
    }

    private static void imageKeepsTheNight() {
        W.terms("THE NIGHT, TAKEN, NUMBERS, SPACES, PURSES, what all OWE");
        imageOf(1, 0);
    }

    private static void imageKeepsTaken() {
        W.terms("THE NIGHT, TAKEN, NUMBERS, SPACES, PURSES, what all OWE");
        DreamsPayRent x = nine();
        x.night();
        x.image();
        x.night();
        W.due("then", x.count(3), 18);
        x.back();
        W.due("back", x.count(3), 9);
        W.due("TAKEN in a RUN", x.run(2, 0), 18);
    }

    private static void imageKeepsDreams() {
        W.terms("THE NIGHT, TAKEN, NUMBERS, SPACES, PURSES, what all OWE");
        for (int what = 3; what <= 6; what++) {
            for (int dream = 0; dream < 5; dream++) {
                imageOf(what, dream);
            }
        }
    }

    private static void imageKeepsWhere() {
        W.terms("where they are, THE RULE");
        DreamsPayRent x = new DreamsPayRent();
        for (int i = 0; i < 5; i++) {
            x.dream(DREAM, 0, 1);
        }
        x.let(0, 7);
        x.let(4, 0);
        x.image();
        x.let(0, NONE);
        x.let(1, 7);
        x.let(4, 5);
        x.back();
        int[] rooms = {7, NONE, NONE, NONE, 0};
        for (int i = 0; i < 5; i++) {
            W.due("ROOM of " + i, x.told(i, 7), rooms[i]);
        }
        W.due("who(7)", x.who(7), 0);
        W.due("who(5)", x.who(5), NONE);
    }

    private static void imageKeepsTheRule() {
        W.terms("where they are, THE RULE");
        DreamsPayRent x = nine();
        x.image();
        x.force(0);
        W.due("then", x.would(0, 0, 1), 10);
        x.back();
        W.due("count(6)", x.count(6), 1);
        W.due("back", x.would(0, 0, 1), 9);
    }

    private static void dreamsThatCameSinceGo() {
        W.terms("(DREAMS that came since go).");
        DreamsPayRent x = new DreamsPayRent();
        x.dream(DREAM, 0, 1);
        x.image();
        for (int i = 1; i < 5; i++) {
            Check.lodger(x, SEA, 9, 2, i - 1);
            x.set(5, i, 1);
            x.set(6, i, 2);
        }
        W.due("back", x.back(), 1);
        W.due("count(0)", x.count(0), 1);
        W.due("count(1)", x.count(1), 0);
        W.due("told(1, 8)", x.told(1, 8), BAD);
        W.due("who(0)", x.who(0), NONE);
        W.due("another one comes", x.dream(PARTY, 5, 6), 1);
        int[] wants = {5, 6, 100, 0, NONE, PARTY};
        for (int what = 3; what <= 8; what++) {
            W.due("told(1, " + what + ")", x.told(1, what), wants[what - 3]);
        }
    }

    // ---- Promise 19: rents

    private static void rentsByWhat() {
        W.promise(19, "TOLD RENTS: the first ROOM that is otherwise (what 0; NONE), KINDS (1), NUMBERS (2), TEXTS (3), NIGHTS:"
            + " how many (4), the least (5; NONE), SPACES: how many (6), the least (7; NONE).");
        DreamsPayRent x = ruled(SEA, "20 + (5 < night) + (space = 4)");
        x.set(1, 0, 6);
        Check.row(x, 1, 25, 25, 25, 25, 25, 25, 25, 25);
        int[] wants = {NONE, 2, 8, 2, 94, 6, 1, 4};
        for (int what = 0; what < 8; what++) {
            rents("as it is", x, what, wants[what]);
        }
        x.cell(1, 3, 0);
        int[] none = {3, 0, 0, 0, 0, NONE, 0, NONE};
        for (int what = 0; what < 8; what++) {
            rents("as nothing would be", x, what, none[what]);
        }
    }

    private static void rentsAreBad() {
        W.promise(19, "BAD: SHEET, DREAM, what;");
        DreamsPayRent x = ruled(DREAM, "1");
        for (int sheet : new int[] {-1, 4, MIN, MAX}) {
            W.due("rents(" + sheet + ", 0, 0)", x.rents(sheet, 0, 0), BAD);
        }
        for (int dream : new int[] {-1, 1, 5, MIN, MAX}) {
            W.due("of a missing SHEET: rents(1, " + dream + ", 0)", x.rents(1, dream, 0), BAD);
        }
        for (int what : new int[] {-1, 8, MIN, MAX}) {
            W.due("of a missing SHEET: rents(1, 0, " + what + ")", x.rents(1, 0, what), BAD);
        }
    }

    private static void rentsOfNothing() {
        W.promise(19, "-11;");
        DreamsPayRent x = ruled(DREAM, "1");
        for (int what = 0; what < 8; what++) {
            W.due("rents(1, 0, " + what + ")", x.rents(1, 0, what), MISSING);
        }
        x.sheet(1, 1, 8);
        x.sheet(1, -1, 8);
        W.due("missing again", x.rents(1, 0, 0), MISSING);
    }

    private static void rentsOfAnotherSize() {
        W.promise(19, "BAD: it doesn't tell 8.");
        DreamsPayRent x = ruled(DREAM, "0");
        for (int sort = 0; sort < 3; sort++) {
            for (int n : new int[] {0, 1, 7, 9, 40}) {
                x.sheet(1, sort, n);
                for (int what : new int[] {0, 1, 7}) {
                    rents("it tells " + n, x, what, BAD);
                }
            }
            x.sheet(1, sort, 8);
            rents("it tells 8", x, 0, NONE);
        }
    }

    // ---- Promise 20: film

    private static void film() {
        W.promise(20, "A SHEET truly becomes what a DREAM PAYS in ROOMS 0 .. 7 (shorts): 8.");
        DreamsPayRent x = new DreamsPayRent();
        x.dream(PARTY, 9, 20);
        x.dream(DREAM, 0, 1);
        for (int room = 0; room < 8; room++) {
            x.set(2, room, 40 - room);
        }
        for (int sheet = 0; sheet < 4; sheet++) {
            W.due("film(" + sheet + ", 0)", x.film(sheet, 0), 8);
            W.due("it has 8", x.cell(sheet, 8, 0), -12);
            W.due("of shorts", x.dreams(sheet, 1, 0, 0), 0);
            W.due("what it PAYS, whether it FITS or not", x.rents(sheet, 0, 0), NONE);
            W.due("in all ROOMS it tells more than the other one PAYS", x.rents(sheet, 1, 0), 0);
            W.due("its KIND alone", x.rents(sheet, 0, 1), 1 << PARTY);
        }
        W.due("another one's", x.film(0, 1), 8);
        W.due("is read back", x.rents(0, 1, 0), NONE);
    }

    private static void filmOfMuch() {
        W.promise(20, "A SHEET truly becomes what a DREAM PAYS in ROOMS 0 .. 7 (shorts): 8.");
        DreamsPayRent x = ruled(PARTY, "99");
        x.set(3, 0, 9);
        x.film(1, 0);
        rents("207 is more than a byte has", x, 0, NONE);
        x.sheet(2, 1, 8);
        W.due("a row of shorts like it", x.copy(1, 0, 2, 0, 8), 8);
        W.due("tells the same", x.rents(2, 0, 0), NONE);
    }

    private static void filmIsBad() {
        W.promise(20, "BAD.");
        DreamsPayRent x = ruled(DREAM, "1");
        for (int sheet : new int[] {-1, 4, MIN, MAX}) {
            W.due("film(" + sheet + ", 0)", x.film(sheet, 0), BAD);
        }
        for (int dream : new int[] {-1, 1, 5, MIN, MAX}) {
            W.due("film(1, " + dream + ")", x.film(1, dream), BAD);
        }
        W.due("SHEET 1 is missing still", x.cell(1, 0, 0), MISSING);
    }

    // ---- Promises 21, 22: drawn, chance

    private static void drawn() {
        W.promise(21, "DRAWN.");
        DreamsPayRent x = nine();
        for (int seed : new int[] {MIN, -1, 0, 1, MAX}) {
            int purse = (draw(seed) >>> 9) % 200;
            W.due("drawn(" + seed + ")", x.drawn(seed), Math.min(purse / 9, 20) * 9);
            W.due("again", x.drawn(seed), Math.min(purse / 9, 20) * 9);
        }
        W.due("PURSE as it was", x.told(0, 5), 100);
        W.due("ROOM as it was", x.told(0, 7), 0);
    }

    private static void chance() {
        W.promise(22, "IN n seeds: part 0 above, 1 below the line, in lowest terms.");
        DreamsPayRent x = nine();
        for (int n = 1; n <= 20; n++) {
            int of = shared(good(0, n), n);
            W.due("chance(0, " + n + ", 0)", x.chance(0, n, 0), good(0, n) / of);
            W.due("chance(0, " + n + ", 1)", x.chance(0, n, 1), n / of);
        }
        x.set(6, 0, 21);
        W.due("0 of 20", x.chance(0, 20, 0), 0);
        W.due("is 0 of 1", x.chance(0, 20, 1), 1);
        x.let(0, NONE);
        W.due("20 of 20", x.chance(0, 20, 0), 1);
        W.due("is 1 of 1", x.chance(0, 20, 1), 1);
    }

    private static void chanceIsNo() {
        W.promise(22, "NO: n, part.");
        DreamsPayRent x = nine();
        for (int n : new int[] {0, -1, 21, MIN, MAX}) {
            W.due("chance(0, " + n + ", 0)", x.chance(0, n, 0), NO);
            W.due("chance(0, " + n + ", 1)", x.chance(0, n, 1), NO);
        }
        for (int part : new int[] {-1, 2, MIN, MAX}) {
            W.due("chance(0, 1, " + part + ")", x.chance(0, 1, part), NO);
            W.due("chance(0, 20, " + part + ")", x.chance(0, 20, part), NO);
        }
    }

    // ---- Promises 23, 24: image, back

    private static void image() {
        W.promise(23, "AN IMAGE is kept: how many DREAMS.");
        DreamsPayRent x = new DreamsPayRent();
        W.due("of none", x.image(), 0);
        for (int i = 1; i <= 5; i++) {
            x.dream(DREAM, i, 1);
            W.due("of " + i, x.image(), i);
            W.due("those who are out count", x.count(1), 0);
        }
        x.set(3, 0, 9);
        x.back();
        W.due("the last one is kept", x.count(0), 5);
        W.due("NUMBER", x.told(0, 3), 1);
    }

    private static void back() {
        W.promise(24, "All that it keeps is as in THE IMAGE: how many DREAMS.");
        DreamsPayRent x = new DreamsPayRent();
        x.image();
        for (int i = 0; i < 5; i++) {
            x.dream(DREAM, i, 1);
        }
        W.due("to none", x.back(), 0);
        x.dream(SEA, 7, 1);
        x.dream(FLYING, 8, 1);
        x.image();
        x.dream(DREAM, 0, 1);
        W.due("to two", x.back(), 2);
        W.due("to two, again", x.back(), 2);
        W.due("KIND of 0", x.told(0, 8), SEA);
        W.due("KIND of 1", x.told(1, 8), FLYING);
        W.due("NUMBER of 1", x.told(1, 3), 8);
    }

    private static void backLeavesTheRest() {
        W.promise(24, "All that it keeps is as in THE IMAGE: how many DREAMS.");
        DreamsPayRent x = new DreamsPayRent();
        x.image();
        Check.text(x, "rents 1; leaks 2; minds 3;");
        x.feed('r');
        x.sheet(2, 1, 3);
        x.back();
        W.due("TEXTS stay", x.count(4), 2);
        W.due("THE TAPE stays", x.count(5), 1);
        W.due("SHEETS stay", x.cell(2, 2, 1), 1);
        W.due("TEXT 1 may be THE RULE", x.force(1), 0);
    }

    private static void backIsState() {
        W.promise(24, "STATE: there is none.");
        DreamsPayRent x = new DreamsPayRent();
        x.dream(DREAM, 0, 1);
        W.due("back()", x.back(), STATE);
        W.due("count(0)", x.count(0), 1);
        x.image();
        W.due("then there is one", x.back(), 1);
    }

    // ---- Promise 25: count

    private static void countsOfDreams() {
        W.promise(25, "How many: 0 DREAMS, 1 DREAMS in ROOMS");
        DreamsPayRent x = new DreamsPayRent();
        for (int i = 0; i <= 5; i++) {
            W.due("count(0)", x.count(0), i);
            W.due("count(1)", x.count(1), 0);
            x.dream(DREAM, 0, 1);
        }
        for (int i = 0; i < 5; i++) {
            x.let(i, 7 - i);
            W.due("count(1)", x.count(1), i + 1);
        }
        x.let(2, NONE);
        W.due("count(1), one is out", x.count(1), 4);
        W.due("count(0)", x.count(0), 5);
    }

    private static void countsOfNights() {
        W.promise(25, "2 THE NIGHT, 3 TAKEN");
        DreamsPayRent x = nine();
        for (int i = 0; i < 5; i++) {
            W.due("count(2)", x.count(2), i);
            W.due("count(3)", x.count(3), 9 * i);
            x.night();
        }
        x.set(1, 0, 999);
        W.due("count(2)", x.count(2), 999);
    }

    private static void countsOfTexts() {
        W.promise(25, "4 TEXTS, 5 bytes of THE TAPE, 6 THE RULE.");
        DreamsPayRent x = new DreamsPayRent();
        for (int i = 0; i <= 5; i++) {
            W.due("count(4)", x.count(4), i + 1);
            W.due("count(5)", x.count(5), 0);
            W.due("count(6)", x.count(6), i);
            if (i < 5) {
                Check.rule(x, "rents 1; leaks 2; minds 3;");
            }
        }
        x.feed(' ');
        x.feed('?');
        W.due("count(5)", x.count(5), 2);
    }

    private static void countIsBad() {
        W.promise(25, "BAD.");
        DreamsPayRent x = new DreamsPayRent();
        for (int what : new int[] {-1, 7, MIN, MAX}) {
            W.due("count(" + what + ")", x.count(what), BAD);
        }
    }
}
