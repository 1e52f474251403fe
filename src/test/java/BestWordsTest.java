/** What the document says of what would be best (Terms 2, promises 15 to 18): a test for each sentence. */
public final class BestWordsTest {
    private static final Words W = new Words("BestWordsTest");
    private static final int NONE = -1, NOT_ANSWERED = -100000;
    private static final int MIN = Integer.MIN_VALUE, MAX = Integer.MAX_VALUE;
    private static final int DREAM = 0, SEA = 1, FLYING = 2, NIGHTMARE = 3;

    public static void main(String[] args) throws Exception {
        W.run(BestWordsTest.class);
    }

    private static DreamsPayRent ruled(String rule) {
        DreamsPayRent x = new DreamsPayRent();
        Check.rule(x, rule);
        return x;
    }

    private static void bests(String of, DreamsPayRent x, int... wants) {
        for (int what = 0; what < wants.length; what++) {
            W.due(of + ": best(" + what + ")", x.best(what), wants[what]);
        }
    }

    private static void change(String of, DreamsPayRent x, int who, int worth) {
        W.due(of + ": change(0)", x.change(0), who);
        W.due(of + ": change(1)", x.change(1), worth);
    }

    private static void putOut(String of, DreamsPayRent x, int who, int worth) {
        W.due(of + ": putOut(0)", x.putOut(0), who);
        W.due(of + ": putOut(1)", x.putOut(1), worth);
    }

    private static void line(String of, DreamsPayRent x, int wall, int worth) {
        W.due(of + ": line(0)", x.line(0), wall);
        W.due(of + ": line(1)", x.line(1), worth);
    }

    // ---- Terms: BEST

    private static void bestWhereItFits() {
        W.terms("BEST: of all ways to have each DREAM in a ROOM that it FITS, or out, that of most WORTH");
        for (int kind = 0; kind < 6; kind++) {
            DreamsPayRent x = ruled("rents size; leaks 0; minds 0;");
            x.dream(kind, 0, 10);
            int[] needs = {10, 20, 10, 20, 10, 5};
            for (int room = 0; room < 8; room++) {
                x.set(2, room, needs[kind] - 1);
            }
            bests("KIND " + kind + ", no ROOM is large enough", x, 0, NONE);
            for (int room = 0; room < 8; room++) {
                x.set(2, room, needs[kind]);
                int fits = x.would(0, room, 0);
                bests("KIND " + kind + ", ROOM " + room + " alone is", x, fits * x.would(0, room, 1), fits == 1 ? room : NONE);
                x.set(2, room, needs[kind] - 1);
            }
        }
    }

    private static void bestOrOut() {
        W.terms("BEST: of all ways to have each DREAM in a ROOM that it FITS, or out, that of most WORTH");
        DreamsPayRent x = ruled("rents 10 + number; leaks 99; minds 9;");
        for (int room = 2; room < 8; room++) {
            x.set(2, room, 1);
        }
        x.dream(DREAM, 1, 2);
        x.dream(DREAM, 3, 2);
        x.dream(DREAM, 2, 2);
        bests("one alone, for what leaks", x, 13, NONE, 0, NONE);
        x.set(0, 0, 1);
        bests("two by a LINED WALL, two ROOMS for three", x, 25, NONE, 0, 1);
    }

    private static void bestByWhatLeaks() {
        W.terms("BEST: of all ways to have each DREAM in a ROOM that it FITS, or out, that of most WORTH");
        DreamsPayRent x = ruled("rents size; leaks space; minds number;");
        for (int room = 0; room < 8; room++) {
            x.set(2, room, room < 2 ? 40 : 1);
        }
        x.dream(DREAM, 3, 2);
        x.dream(DREAM, 4, 5);
        bests("80 less 2 times 4, less 5 times 3", x, 57, 0, 1);
        x.set(3, 1, 9);
        bests("80 less 2 times 9, less 5 times 3", x, 47, 0, 1);
        x.set(4, 1, 9);
        bests("80 less 2 times 9, less 9 times 3 is too little", x, 40, NONE, 0);
        x.set(0, 0, 1);
        bests("nothing leaks through a LINED WALL", x, 80, 0, 1);
    }

    private static void bestNoTwoInOne() {
        W.terms("BEST: of all ways to have each DREAM in a ROOM that it FITS, or out, that of most WORTH");
        DreamsPayRent x = ruled("rents size; leaks 0; minds 0;");
        for (int room = 0; room < 8; room++) {
            x.set(2, room, room == 3 ? 40 : 9);
        }
        Check.lodger(x, DREAM, 0, 10, 3);
        x.dream(DREAM, 0, 10);
        bests("one ROOM for two", x, 40, NONE, 3);
    }

    private static void bestOfFive() {
        W.terms("BEST: of all ways to have each DREAM in a ROOM that it FITS, or out, that of most WORTH");
        DreamsPayRent x = ruled("rents 5 * number; leaks 9; minds 1;");
        int[] numbers = {9, 8, 7, 6, 1};
        for (int number : numbers) {
            x.dream(DREAM, number, 1);
        }
        // four can be without a neighbour; a fifth would PAY 5 and leak more
        bests("five DREAMS", x, 150, 0, 3, 4, 7, NONE);
        x.set(0, 0, 1023);
        bests("all WALLS are LINED", x, 155, 0, 1, 2, 3, 4);
    }

    private static void bestIsTheFirst() {
        W.terms("of like ones the first (by DREAMS, out ahead of ROOMS).");
        DreamsPayRent x = ruled("rents 0; leaks 0; minds 0;");
        x.dream(DREAM, 0, 1);
        x.dream(DREAM, 0, 1);
        bests("out ahead of ROOMS", x, 0, NONE, NONE);
        Check.rule(x, "rents 7; leaks 0; minds 0;");
        bests("lesser ROOMS ahead", x, 14, 0, 1);
        Check.rule(x, "rents floor; leaks 0; minds 0;");
        bests("the first DREAM ahead", x, 6, 6, 7);
        x.let(0, 7);
        x.let(1, 6);
        bests("as they are now does not matter", x, 6, 6, 7);
        Check.rule(x, "rents 7; leaks 7; minds 1;");
        bests("apart, the first ROOMS of it", x, 14, 0, 3);
        x.dream(DREAM, 0, 1);
        Check.rule(x, "rents 7 * (floor = 3); leaks 0; minds 0;");
        bests("two ROOMS for three: the first is out", x, 14, NONE, 6, 7);
    }

    // ---- Terms: CHANGE

    private static void changeOfTwo() {
        W.terms("CHANGE: two DREAMS (also one that is out), the lesser first");
        DreamsPayRent x = ruled("rents number * floor; leaks 0; minds 0;");
        Check.lodger(x, DREAM, 1, 1, 6);
        Check.lodger(x, DREAM, 9, 1, 0);
        change("both in", x, 1, 27);
        x.let(1, NONE);
        change("the greater one is out", x, 1, 27);
        x.let(1, 6 + 1);
        x.let(0, NONE);
        change("the lesser one is out", x, NONE, 27);
        x.set(3, 1, 0);
        change("the lesser one is out", x, 1, 3);
        x.let(1, NONE);
        change("both are out", x, NONE, 0);
    }

    private static void changeNamesBoth() {
        W.terms("CHANGE: two DREAMS (also one that is out), the lesser first");
        for (int one = 0; one < 5; one++) {
            for (int other = one + 1; other < 5; other++) {
                DreamsPayRent x = ruled("rents number * floor; leaks 0; minds 0;");
                for (int i = 0; i < 5; i++) {
                    x.dream(DREAM, i == other ? 9 : 0, 1);
                }
                x.let(one, 5);
                x.let(other, 1);
                change(one + " and " + other, x, 10 * one + other, 18);
            }
        }
    }

    private static void changeMustFit() {
        W.terms("by whose changing of ROOMS, both FITTING where they come");
        DreamsPayRent x = ruled("rents number * floor; leaks 0; minds 0;");
        Check.lodger(x, DREAM, 0, 5, 6);
        Check.lodger(x, SEA, 9, 5, 2);
        change("a SEA does not LIE on 3", x, NONE, 18);
        Check.lodger(x, NIGHTMARE, 9, 5, 3);
        change("a NIGHTMARE does", x, 2, 18 + 18);
        x.set(2, 6, 9);
        change("it NEEDS 10, SIZE is 9", x, NONE, 18 + 9);
        x.set(2, 6, 10);
        x.set(2, 3, 4);
        change("the other one NEEDS 5, SIZE is 4", x, NONE, 18 + 9);
        x.set(2, 3, 5);
        change("both just FIT", x, 2, 18 + 18);
    }

    private static void oneThatGoesOut() {
        W.terms("by whose changing of ROOMS, both FITTING where they come");
        DreamsPayRent x = ruled("rents number; leaks 0; minds 0;");
        Check.lodger(x, DREAM, 1, 10, 6);
        x.dream(FLYING, 9, 10);
        change("the one that is out FITS", x, 1, 18);
        x.set(4, 1, 11);
        change("it NEEDS 11, SIZE is 10", x, NONE, 1);
        x.set(4, 1, 10);
        x.set(4, 0, 20);
        change("the one that goes out comes into no ROOM", x, 1, 18);
        x.set(4, 0, 10);
        x.let(0, 0);
        change("FLYING does not LIE on 0", x, NONE, 1);
    }

    private static void changeIfMore() {
        W.terms("WORTH would be most, if more than now; of like ones the first.");
        DreamsPayRent x = ruled("rents number * floor; leaks 0; minds 0;");
        Check.lodger(x, DREAM, 5, 1, 6);
        Check.lodger(x, DREAM, 5, 1, 0);
        change("as much as now", x, NONE, 15);
        x.set(3, 1, 6);
        change("1 more is more", x, 1, 18);
        x.set(3, 1, 4);
        change("less", x, NONE, 15);
    }

    private static void changeOfLikeOnes() {
        W.terms("WORTH would be most, if more than now; of like ones the first.");
        DreamsPayRent x = ruled("rents number * floor; leaks 0; minds 0;");
        Check.lodger(x, DREAM, 0, 1, 6);
        Check.lodger(x, DREAM, 4, 1, 0);
        Check.lodger(x, DREAM, 4, 1, 1);
        Check.lodger(x, DREAM, 0, 1, 7);
        change("0 1, 0 2, 1 3, 2 3 are like", x, 1, 12);
        x.set(3, 1, 3);
        change("0 2, 2 3 are like", x, 2, 12);
        x.set(3, 0, 1);
        change("2 3 is most", x, 23, 15);
    }

    private static void changeByLeaks() {
        W.terms("WORTH would be most, if more than now; of like ones the first.");
        DreamsPayRent x = ruled("rents 10; leaks space; minds number;");
        Check.lodger(x, DREAM, 9, 1, 0);
        Check.lodger(x, DREAM, 0, 9, 1);
        Check.lodger(x, DREAM, 0, 1, 7);
        // 81 leak now; with 1 and 2 changed 9; with 0 and 2 0
        change("0 next to 2, or 2 next to 1", x, 2, 30);
    }

    // ---- Terms: PUT OUT

    private static void putOutOfMost() {
        W.terms("PUT OUT: the DREAM without which WORTH would be most");
        DreamsPayRent x = ruled("rents 10; leaks space; minds number;");
        Check.lodger(x, DREAM, 0, 5, 1);
        Check.lodger(x, DREAM, 8, 1, 0);
        Check.lodger(x, DREAM, 1, 7, 2);
        // 40 and 1 + 56 leak: without 0 30 less 57 .. without 1 nothing leaks
        putOut("the one between them", x, 1, 20);
        x.let(1, 7);
        putOut("they are apart", x, NONE, 30);
    }

    private static void putOutIfMore() {
        W.terms("if more than now; of like ones the first.");
        DreamsPayRent x = ruled("rents 10; leaks space; minds number;");
        Check.lodger(x, DREAM, 1, 1, 0);
        Check.lodger(x, DREAM, 0, 10, 1);
        putOut("as much as now", x, NONE, 10);
        x.set(4, 1, 11);
        putOut("1 more, both are like", x, 0, 10);
        x.set(4, 1, 9);
        putOut("less", x, NONE, 11);
    }

    private static void putOutOfThoseInRooms() {
        W.terms("PUT OUT: the DREAM without which WORTH would be most");
        DreamsPayRent x = ruled("rents 10 * (0 < number); leaks 99; minds 9;");
        x.dream(DREAM, 0, 1);
        x.dream(DREAM, 0, 1);
        x.dream(DREAM, 0, 1);
        x.let(1, 2);
        x.let(2, 3);
        putOut("not the one that is out", x, 1, 0);
        x.set(3, 1, 1);
        putOut("the one that PAYS less", x, 2, 10);
    }

    // ---- Terms: LINE

    private static void lineOfMost() {
        W.terms("LINE: the WALL by whose being LINED WORTH would be more by most, if by any; of like ones the first.");
        DreamsPayRent x = ruled("rents 10; leaks space; minds 1;");
        line("nobody", x, NONE, 0);
        Check.lodger(x, DREAM, 0, 2, 0);
        Check.lodger(x, DREAM, 0, 3, 1);
        Check.lodger(x, DREAM, 0, 4, 3);
        // WALL 0: 5; WALL 5: 7
        line("by most", x, 5, 25);
        x.set(4, 2, 2);
        line("of like ones the first", x, 0, 25);
        x.set(0, 0, 1);
        line("the first is LINED", x, 5, 30);
        x.set(0, 0, 33);
        line("both are LINED", x, NONE, 30);
        Check.rule(x, "rents 10; leaks space; minds 0;");
        x.set(0, 0, 0);
        line("nothing is minded", x, NONE, 30);
    }

    private static void lineOfEachWall() {
        W.terms("LINE: the WALL by whose being LINED WORTH would be more by most, if by any; of like ones the first.");
        int[][] walls = {{0, 1}, {2, 3}, {4, 5}, {6, 7}, {0, 2}, {1, 3}, {2, 4}, {3, 5}, {4, 6}, {5, 7}};
        for (int wall = 0; wall < 10; wall++) {
            DreamsPayRent x = ruled("rents 10; leaks space; minds number;");
            Check.lodger(x, DREAM, 1, 1, walls[wall][0]);
            Check.lodger(x, DREAM, 0, 1, walls[wall][1]);
            line("by 1 is by any", x, wall, 20);
            W.due("WORTH now", x.worth(), 19);
        }
    }

    // ---- Promise 15: best

    private static void bestWorthAndRooms() {
        W.promise(15, "BEST: WORTH (what 0), the ROOM of DREAM what less 1 (1 ..; NONE: out).");
        bests("of a new object", new DreamsPayRent(), 0, NOT_ANSWERED);
        DreamsPayRent x = ruled("rents number * floor; leaks 0; minds 0;");
        int[] numbers = {1, 0, 9, 5, 3};
        for (int number : numbers) {
            x.dream(DREAM, number, 1);
        }
        bests("five", x, 27 + 15 + 6 + 2, 4, NONE, 6, 7, 5);
        W.due("they are where they were", x.count(1), 0);
    }

    private static void bestRefuses() {
        W.promise(15, "-100000: what, no such DREAM.");
        DreamsPayRent x = new DreamsPayRent();
        for (int dreams = 0; dreams <= 5; dreams++) {
            for (int what : new int[] {-1, dreams + 1, 6, MIN, MAX}) {
                W.due(dreams + " DREAMS: best(" + what + ")", x.best(what), NOT_ANSWERED);
            }
            x.dream(DREAM, 0, 20);
            W.due("best(" + (dreams + 1) + ") then", x.best(dreams + 1), dreams < 5 ? NONE : NOT_ANSWERED);
        }
    }

    // ---- Promise 16: change

    private static void changeAnswers() {
        W.promise(16, "CHANGE: 10 times the one, and the other (what 0; NONE), WORTH then (1; as now, if none).");
        DreamsPayRent x = ruled("rents number * floor; leaks 0; minds 0;");
        change("of nobody", x, NONE, 0);
        for (int i = 0; i < 5; i++) {
            x.dream(DREAM, i < 3 ? 0 : i, 1);
        }
        x.let(3, 7);
        change("one that is in", x, 34, 12);
        x.let(4, 6);
        change("none", x, NONE, 21);
        x.let(4, 0);
        change("3 and 4", x, 34, 12);
        W.due("they are where they were", x.who(7) * 10 + x.who(0), 34);
    }

    private static void changeRefuses() {
        W.promise(16, "-100000: what.");
        DreamsPayRent x = new DreamsPayRent();
        for (int what : new int[] {-1, 2, 10, MIN, MAX}) {
            W.due("change(" + what + ")", x.change(what), NOT_ANSWERED);
        }
    }

    // ---- Promise 17: putOut

    private static void putOutAnswers() {
        W.promise(17, "PUT OUT (what 0; NONE), WORTH then (1; as now, if none).");
        DreamsPayRent x = ruled("rents 10; leaks 99; minds 9;");
        putOut("of nobody", x, NONE, 0);
        for (int i = 0; i < 5; i++) {
            x.dream(DREAM, 0, 1);
        }
        putOut("all are out", x, NONE, 0);
        x.let(4, 4);
        putOut("one is in", x, NONE, 10);
        x.let(3, 5);
        putOut("two are", x, 3, 10);
        W.due("they are where they were", x.who(4) * 10 + x.who(5), 43);
    }

    private static void putOutRefuses() {
        W.promise(17, "-100000: what.");
        DreamsPayRent x = new DreamsPayRent();
        for (int what : new int[] {-1, 2, 10, MIN, MAX}) {
            W.due("putOut(" + what + ")", x.putOut(what), NOT_ANSWERED);
        }
    }

    // ---- Promise 18: line

    private static void lineAnswers() {
        W.promise(18, "LINE (what 0; NONE), WORTH then (1; as now, if none).");
        DreamsPayRent x = ruled("rents 10; leaks 4; minds 2;");
        line("of nobody", x, NONE, 0);
        Check.lodger(x, DREAM, 0, 1, 4);
        line("of one", x, NONE, 10);
        Check.lodger(x, DREAM, 0, 1, 6);
        line("of two", x, 8, 20);
        W.due("LINED as it was", x.told(0, 0), 0);
        x.set(0, 0, 256);
        line("it is LINED", x, NONE, 20);
        x.set(0, 0, 767);
        line("all but it are LINED", x, 8, 20);
    }

    private static void lineRefuses() {
        W.promise(18, "-100000: what.");
        DreamsPayRent x = new DreamsPayRent();
        for (int what : new int[] {-1, 2, 10, MIN, MAX}) {
            W.due("line(" + what + ")", x.line(what), NOT_ANSWERED);
        }
    }
}
