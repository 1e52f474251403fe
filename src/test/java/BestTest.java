/** Promises 15 to 18: best, change, putOut, line. */
public final class BestTest {
    private static final Check CHECK = new Check("BestTest");
    private static final int DREAM = 0, SEA = 1, FLYING = 2;

    public static void main(String[] args) {
        bestOfNone();
        bestOfLikeOnes();
        bestFits();
        bestMindsLeaks();
        bestRefuses();
        changeOfTwo();
        changeWithOneThatIsOut();
        changeMustFit();
        changeOfLikeOnes();
        putOutOfSome();
        lineOfSome();
        theyRefuse();
        nothingIsChanged();
        CHECK.end();
    }

    private static void bests(String of, DreamsPayRent x, int... wants) {
        for (int what = 0; what < wants.length; what++) {
            CHECK.due("15 " + of + ": best(" + what + ")", x.best(what), wants[what]);
        }
    }

    private static void bestOfNone() {
        bests("no DREAMS", new DreamsPayRent(), 0, -100000);
    }

    private static void bestOfLikeOnes() {
        DreamsPayRent x = new DreamsPayRent();
        x.dream(DREAM, 0, 1);
        x.dream(DREAM, 0, 1);
        x.dream(DREAM, 0, 1);
        bests("the first of like ones", x, 38, 4, 6, 7);
        Check.rule(x, "rents 0; leaks 0; minds 0;");
        bests("out ahead of ROOMS", x, 0, -1, -1, -1);
        Check.rule(x, "rents 7; leaks 0; minds 0;");
        bests("lesser ROOMS ahead", x, 21, 0, 1, 2);
        Check.rule(x, "rents 1; leaks 1; minds 9;");
        bests("none next to another", x, 3, 0, 3, 4);
    }

    private static void bestFits() {
        DreamsPayRent x = new DreamsPayRent();
        Check.lodger(x, SEA, 0, 5, 3);
        Check.lodger(x, FLYING, 0, 10, 7);
        x.dream(DREAM, 0, 20);
        bests("where they LIE", x, 11 + 26, 2, 6, -1);
        x.set(2, 2, 9);
        x.set(2, 3, 9);
        x.set(2, 6, 9);
        bests("where they FIT", x, 10 + 26, 0, 7, -1);
        for (int room = 0; room < 8; room++) {
            x.set(2, room, 9);
        }
        bests("nowhere, though they are in", x, 0, -1, -1, -1);
        x.set(2, 5, 40);
        bests("one ROOM for two", x, 84, -1, 5, -1);
    }

    private static void bestMindsLeaks() {
        DreamsPayRent x = new DreamsPayRent();
        Check.rule(x, "rents size; leaks space; minds number;");
        x.dream(DREAM, 0, 9);
        x.dream(DREAM, 2, 1);
        x.set(2, 0, 40);
        x.set(2, 1, 30);
        // next to one another: 70 less 18; apart: 40 + 10
        bests("a leak that is worth it", x, 52, 0, 1);
        x.set(2, 1, 27);
        bests("a leak that is not", x, 50, 0, 3);
        x.set(0, 0, 1);
        bests("LINED", x, 67, 0, 1);
        aCrowd();
    }

    /** Of three ROOMS, the middle one leaks into both others. */
    private static void aCrowd() {
        DreamsPayRent x = new DreamsPayRent();
        Check.rule(x, "rents 20 * number; leaks space; minds 1;");
        for (int room = 0; room < 8; room++) {
            x.set(2, room, room == 2 || room == 4 || room == 6 ? 20 : 1);
        }
        x.dream(DREAM, 2, 4);
        x.dream(DREAM, 2, 4);
        x.dream(DREAM, 1, 9);
        // all in: 100 less 8 less 13; without 2, apart: 80
        bests("without the least one", x, 80, 2, 6, -1);
        x.set(3, 2, 4);
        bests("all, the one that leaks most at the end", x, 160 - 8 - 13, 2, 4, 6);
        x.set(0, 0, 64);
        bests("one of two WALLS is LINED", x, 160 - 8, 4, 6, 2);
    }

    private static void bestRefuses() {
        DreamsPayRent x = new DreamsPayRent();
        x.dream(DREAM, 0, 1);
        x.dream(DREAM, 0, 1);
        CHECK.due("15 best(-1)", x.best(-1), -100000);
        CHECK.due("15 best(2)", x.best(2), 7);
        CHECK.due("15 best(3)", x.best(3), -100000);
        CHECK.due("15 best(MIN)", x.best(Integer.MIN_VALUE), -100000);
        CHECK.due("15 best(MAX)", x.best(Integer.MAX_VALUE), -100000);
    }

    private static void change(String of, DreamsPayRent x, int who, int worth) {
        CHECK.due("16 " + of + ": change(0)", x.change(0), who);
        CHECK.due("16 " + of + ": change(1)", x.change(1), worth);
    }

    private static void changeOfTwo() {
        DreamsPayRent x = new DreamsPayRent();
        change("nobody", x, -1, 0);
        Check.rule(x, "rents size + number * floor; leaks 0; minds 0;");
        Check.lodger(x, DREAM, 0, 1, 6);
        change("one", x, -1, 10);
        Check.lodger(x, DREAM, 5, 1, 0);
        Check.lodger(x, DREAM, 7, 1, 1);
        // floors 3, 0, 0: 0 with 1 is worth 15 more, 0 with 2 21 more
        change("of most WORTH", x, 2, 51);
        x.let(0, 3);
        x.let(1, 6);
        // floors 1, 3, 0: now 45; 0 with 2: 52; 1 with 2: 51
        change("more than now", x, 2, 52);
        x.let(0, 0);
        x.let(2, 7);
        change("none is better", x, -1, 66);
    }

    private static void changeWithOneThatIsOut() {
        DreamsPayRent x = new DreamsPayRent();
        Check.rule(x, "rents number; leaks 0; minds 0;");
        x.dream(DREAM, 9, 1);
        Check.lodger(x, DREAM, 2, 1, 4);
        x.dream(DREAM, 8, 1);
        change("one that is out", x, 1, 9);
        x.let(0, 5);
        change("the greater one is out", x, 12, 17);
    }

    private static void changeMustFit() {
        DreamsPayRent x = new DreamsPayRent();
        Check.rule(x, "rents number * floor; leaks 0; minds 0;");
        Check.lodger(x, SEA, 5, 5, 2);
        Check.lodger(x, DREAM, 1, 10, 6);
        change("SEA does not LIE on floor 3", x, -1, 13);
        x.dream(DREAM, 9, 11);
        change("it NEEDS too much", x, -1, 13);
        x.set(2, 6, 11);
        change("just enough", x, 12, 37);
        x.set(2, 2, 1);
        change("one that goes out need not FIT", x, 12, 37);
    }

    private static void changeOfLikeOnes() {
        DreamsPayRent x = new DreamsPayRent();
        Check.rule(x, "rents number * floor; leaks 0; minds 0;");
        Check.lodger(x, DREAM, 3, 1, 0);
        Check.lodger(x, DREAM, 0, 1, 6);
        Check.lodger(x, DREAM, 3, 1, 1);
        Check.lodger(x, DREAM, 0, 1, 7);
        change("the first of like ones", x, 1, 9);
        x.set(3, 0, 0);
        change("the first of like ones", x, 12, 9);
    }

    private static void putOut(String of, DreamsPayRent x, int who, int worth) {
        CHECK.due("17 " + of + ": putOut(0)", x.putOut(0), who);
        CHECK.due("17 " + of + ": putOut(1)", x.putOut(1), worth);
    }

    private static void putOutOfSome() {
        DreamsPayRent x = new DreamsPayRent();
        putOut("nobody", x, -1, 0);
        Check.rule(x, "rents 10; leaks space; minds number;");
        Check.lodger(x, DREAM, 9, 1, 0);
        Check.lodger(x, DREAM, 0, 2, 1);
        Check.lodger(x, DREAM, 0, 3, 2);
        // 30 less 18 less 27
        putOut("the one that minds", x, 0, 20);
        x.set(3, 0, 4);
        // 30 less 8 less 12: without 0 20; without 2 12
        putOut("the one that minds", x, 0, 20);
        x.set(0, 0, 1);
        // 30 less 12: without 0 20, without 2 20
        putOut("the first of like ones", x, 0, 20);
        x.set(4, 2, 2);
        // 30 less 8
        putOut("none", x, -1, 22);
        x.set(3, 0, 5);
        putOut("of like WORTH as now", x, -1, 20);
        x.let(0, 7);
        x.let(1, 1);
        x.let(2, 0);
        x.set(0, 0, 0);
        x.set(3, 2, 9);
        // 30 less 18, and 0 is in again while 1 is thought away
        putOut("one of the others", x, 1, 20);
    }

    private static void line(String of, DreamsPayRent x, int wall, int worth) {
        CHECK.due("18 " + of + ": line(0)", x.line(0), wall);
        CHECK.due("18 " + of + ": line(1)", x.line(1), worth);
    }

    private static void lineOfSome() {
        DreamsPayRent x = new DreamsPayRent();
        line("nobody", x, -1, 0);
        Check.rule(x, "rents 10; leaks space; minds 1;");
        Check.lodger(x, DREAM, 0, 1, 4);
        Check.lodger(x, DREAM, 0, 2, 5);
        Check.lodger(x, DREAM, 0, 2, 6);
        // walls 2 and 8 leak 3 each
        line("the first of like ones", x, 2, 27);
        x.set(4, 2, 3);
        line("by most", x, 8, 27);
        x.set(0, 0, 256);
        line("the other is LINED", x, 2, 30);
        x.set(0, 0, 260);
        line("both are LINED", x, -1, 30);
        int[][] walls = {{0, 1}, {2, 3}, {4, 5}, {6, 7}, {0, 2}, {1, 3}, {2, 4}, {3, 5}, {4, 6}, {5, 7}};
        x.set(0, 0, 0);
        x.let(2, -1);
        for (int wall = 0; wall < 10; wall++) {
            x.let(0, -1);
            x.let(1, walls[wall][0]);
            x.let(0, walls[wall][1]);
            line("wall " + wall, x, wall, 20);
            x.set(0, 0, 1023 - (1 << wall));
            line("wall " + wall + " alone is not LINED", x, wall, 20);
            x.set(0, 0, 1 << wall);
            line("wall " + wall + " is LINED", x, -1, 20);
            x.set(0, 0, 0);
        }
    }

    private static void theyRefuse() {
        DreamsPayRent x = new DreamsPayRent();
        x.dream(DREAM, 0, 1);
        for (int what : new int[] {-1, 2, Integer.MIN_VALUE, Integer.MAX_VALUE}) {
            CHECK.due("16 change(" + what + ")", x.change(what), -100000);
            CHECK.due("17 putOut(" + what + ")", x.putOut(what), -100000);
            CHECK.due("18 line(" + what + ")", x.line(what), -100000);
        }
    }

    private static void nothingIsChanged() {
        DreamsPayRent x = new DreamsPayRent();
        Check.rule(x, "rents 10 + number * floor; leaks space; minds 1;");
        Check.lodger(x, DREAM, 9, 1, 0);
        Check.lodger(x, DREAM, 0, 9, 6);
        Check.lodger(x, DREAM, 0, 9, 7);
        int worth = x.worth();
        x.best(0);
        x.change(0);
        x.putOut(0);
        x.line(0);
        CHECK.due("15 - 18 WORTH is as it was", x.worth(), worth);
        CHECK.due("15 - 18 ROOM", x.told(0, 7), 0);
        CHECK.due("15 - 18 ROOM", x.told(1, 7), 6);
        CHECK.due("15 - 18 ROOM", x.told(2, 7), 7);
        CHECK.due("15 - 18 LINED", x.told(0, 0), 0);
    }
}
