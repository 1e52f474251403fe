/** Promises 11 to 14: leak, worth, night, run. */
public final class NightsTest {
    private static final Check CHECK = new Check("NightsTest");
    private static final int DREAM = 0, SEA = 1, FLYING = 2, NIGHTMARE = 3, PARTY = 4, SIMPLE = 5;
    private static final int[][] WALLS = {
        {0, 1}, {2, 3}, {4, 5}, {6, 7}, {0, 2}, {1, 3}, {2, 4}, {3, 5}, {4, 6}, {5, 7},
    };

    public static void main(String[] args) {
        eachWall();
        leaksByRooms();
        leakRefuses();
        worthOfAll();
        aNightOfOnePurse();
        aNightOfOwing();
        oneThatOwesFromBefore();
        aNightByKinds();
        rentsThatFollowTheNight();
        theLastNight();
        aRun();
        aRunOfPurses();
        aRunIsInThought();
        runRefuses();
        CHECK.end();
    }

    private static void eachWall() {
        for (int one = 0; one < 8; one++) {
            for (int other = 0; other < 8; other++) {
                if (one != other) {
                    wallsOf(one, other);
                }
            }
        }
    }

    private static void wallsOf(int one, int other) {
        DreamsPayRent x = new DreamsPayRent();
        Check.rule(x, "rents 50; leaks space; minds number;");
        Check.lodger(x, DREAM, 2, 3, one);
        Check.lodger(x, DREAM, 5, 7, other);
        int total = 0;
        for (int wall = 0; wall < 10; wall++) {
            boolean between = WALLS[wall][0] == Math.min(one, other) && WALLS[wall][1] == Math.max(one, other);
            int want = between ? 3 * 5 + 7 * 2 : 0;
            CHECK.due("11 leak(" + wall + ") of " + one + ", " + other, x.leak(wall), want);
            x.set(0, 0, 1 << wall);
            CHECK.due("11 LINED", x.leak(wall), 0);
            CHECK.due("12 worth, one LINED", x.worth(), 100 - (between ? 0 : worthLeak(one, other)));
            x.set(0, 0, 1023 - (1 << wall));
            CHECK.due("11 the others LINED", x.leak(wall), want);
            x.set(0, 0, 0);
            total += want;
        }
        CHECK.due("12 worth", x.worth(), 100 - total);
        x.let(1, -1);
        CHECK.due("12 worth of one", x.worth(), 50);
        for (int wall = 0; wall < 10; wall++) {
            CHECK.due("11 one is out", x.leak(wall), 0);
        }
    }

    private static int worthLeak(int one, int other) {
        for (int[] wall : WALLS) {
            if (wall[0] == Math.min(one, other) && wall[1] == Math.max(one, other)) {
                return 29;
            }
        }
        return 0;
    }

    private static void leaksByRooms() {
        DreamsPayRent x = new DreamsPayRent();
        Check.rule(x, "rents 0; leaks size + floor; minds floor + (size = 20);");
        x.set(2, 4, 20);
        Check.lodger(x, DREAM, 0, 1, 2);
        Check.lodger(x, DREAM, 0, 1, 4);
        // room 2 leaks 11, minds 1; room 4 leaks 22, minds 3
        CHECK.due("11 leak(6)", x.leak(6), 11 * 3 + 22 * 1);
        CHECK.due("12 worth below 0", x.worth(), -55);
    }

    private static void leakRefuses() {
        DreamsPayRent x = new DreamsPayRent();
        CHECK.due("11 leak(-1)", x.leak(-1), -2);
        CHECK.due("11 leak(10)", x.leak(10), -2);
        CHECK.due("11 leak(0)", x.leak(0), 0);
        CHECK.due("11 leak(9)", x.leak(9), 0);
    }

    private static void worthOfAll() {
        DreamsPayRent x = new DreamsPayRent();
        CHECK.due("12 nobody", x.worth(), 0);
        Check.lodger(x, DREAM, 9, 1, 7);
        Check.lodger(x, SEA, 9, 1, 0);
        Check.lodger(x, FLYING, 9, 1, 4);
        Check.lodger(x, NIGHTMARE, 9, 1, 2);
        Check.lodger(x, PARTY, 9, 1, 5);
        CHECK.due("12 five", x.worth(), 13 + 19 + 24 + 10 + 33);
        x.let(2, -1);
        CHECK.due("12 four", x.worth(), 13 + 19 + 10 + 33);
        Check.rule(x, "rents 10; leaks space; minds 1;");
        // rooms 0 and 2, 5 and 7 are next to one another
        CHECK.due("12 less all leaks", x.worth(), 10 + 19 + 9 + 29 - 2 - 2);
    }

    private static void aNightOfOnePurse() {
        DreamsPayRent x = new DreamsPayRent();
        Check.lodger(x, DREAM, 0, 1, 0);
        x.dream(DREAM, 0, 1);
        x.set(5, 0, 10);
        CHECK.due("13 night", x.night(), 0);
        CHECK.due("13 PURSE, just enough", x.told(0, 5), 0);
        CHECK.due("13 OWE", x.told(0, 6), 0);
        CHECK.due("13 TAKEN", x.count(3), 10);
        CHECK.due("13 THE NIGHT", x.count(2), 1);
        CHECK.due("13 PURSE of one that is out", x.told(1, 5), 100);
        x.set(5, 0, 9);
        CHECK.due("13 night", x.night(), 0);
        CHECK.due("13 PURSE, too little", x.told(0, 5), 9);
        CHECK.due("13 OWE", x.told(0, 6), 10);
        CHECK.due("13 TAKEN", x.count(3), 10);
        CHECK.due("13 THE NIGHT", x.count(2), 2);
    }

    private static void aNightOfOwing() {
        DreamsPayRent x = new DreamsPayRent();
        Check.lodger(x, DREAM, 0, 1, 0);
        x.set(5, 0, 0);
        x.set(6, 0, 10);
        CHECK.due("13 it OWES what it BEARS", x.night(), 0);
        CHECK.due("13 OWE", x.told(0, 6), 20);
        CHECK.due("13 it is in", x.told(0, 7), 0);
        x.set(6, 0, 11);
        CHECK.due("13 it OWES 1 more", x.night(), 1);
        CHECK.due("13 OWE", x.told(0, 6), 21);
        CHECK.due("13 it is out", x.told(0, 7), -1);
        CHECK.due("13 one that is out", x.night(), 0);
        CHECK.due("13 OWES no more", x.told(0, 6), 21);
        x.set(6, 0, 9995);
        x.let(0, 0);
        CHECK.due("13 the most", x.night(), 1);
        CHECK.due("13 OWE at most", x.told(0, 6), 9999);
    }

    private static void oneThatOwesFromBefore() {
        DreamsPayRent x = new DreamsPayRent();
        Check.lodger(x, DREAM, 0, 1, 0);
        x.set(6, 0, 21);
        CHECK.due("13 it pays and is put out", x.night(), 1);
        CHECK.due("13 PURSE", x.told(0, 5), 90);
        CHECK.due("13 OWE", x.told(0, 6), 21);
        CHECK.due("13 TAKEN", x.count(3), 10);
        CHECK.due("13 it is out", x.told(0, 7), -1);
        x.let(0, 0);
        x.set(6, 0, 20);
        CHECK.due("13 it pays and stays", x.night(), 0);
        CHECK.due("13 it is in", x.told(0, 7), 0);
    }

    private static void aNightByKinds() {
        int[] bears = {20, 20, 25, 0, 25, 45};
        int[] rooms = {0, 0, 4, 0, 4, 0};
        for (int kind = 0; kind < 6; kind++) {
            for (int more = 0; more < 2; more++) {
                DreamsPayRent x = new DreamsPayRent();
                Check.rule(x, "rents 0; leaks 0; minds 0;");
                Check.lodger(x, kind, 5, 1, rooms[kind]);
                x.set(6, 0, bears[kind] + more);
                CHECK.due("13 " + kind + " OWES " + more + " more", x.night(), more);
            }
        }
        DreamsPayRent x = new DreamsPayRent();
        for (int dream = 0; dream < 5; dream++) {
            Check.lodger(x, NIGHTMARE, 9, 1, dream < 4 ? dream : 6);
            x.set(5, dream, dream == 1 ? 99 : 0);
        }
        CHECK.due("13 four are put out", x.night(), 4);
        CHECK.due("13 one is in", x.count(1), 1);
        CHECK.due("13 TAKEN", x.count(3), 9);
    }

    private static void rentsThatFollowTheNight() {
        DreamsPayRent x = new DreamsPayRent();
        Check.lodger(x, SIMPLE, 9, 1, 0);
        Check.lodger(x, SIMPLE, 9, 1, 1);
        Check.rule(x, "rents night * 10 + owes + 1; leaks 0; minds 0;");
        x.set(5, 1, 0);
        x.night();
        CHECK.due("13 PURSE", x.told(0, 5), 99);
        CHECK.due("13 OWE", x.told(1, 6), 1);
        x.night();
        CHECK.due("13 PURSE", x.told(0, 5), 88);
        CHECK.due("13 OWE", x.told(1, 6), 13);
        CHECK.due("13 put out", x.night(), 0);
        CHECK.due("13 PURSE", x.told(0, 5), 67);
        CHECK.due("13 OWE", x.told(1, 6), 47);
        CHECK.due("13 put out", x.night(), 1);
        CHECK.due("13 OWE", x.told(1, 6), 47 + 78);
    }

    private static void theLastNight() {
        DreamsPayRent x = new DreamsPayRent();
        Check.lodger(x, DREAM, 0, 1, 0);
        x.set(1, 0, 998);
        CHECK.due("13 from 998", x.night(), 0);
        CHECK.due("13 THE NIGHT", x.count(2), 999);
        CHECK.due("13 STATE", x.night(), -3);
        CHECK.due("13 PURSE is as it was", x.told(0, 5), 90);
        CHECK.due("13 THE NIGHT is as it was", x.count(2), 999);
        CHECK.due("14 in thought it may pass", x.run(60, 0), 90);
        CHECK.due("14 who is out", x.run(60, 1), 0);
        CHECK.due("14 in which", x.run(60, 2), 11);
        Check.rule(x, "rents night - 1000; leaks 0; minds 0;");
        CHECK.due("14 nights 999 to 1003", x.run(5, 0), 0 + 0 + 1 + 2 + 3);
    }

    private static DreamsPayRent runner() {
        DreamsPayRent x = new DreamsPayRent();
        Check.lodger(x, DREAM, 0, 1, 0);
        Check.lodger(x, DREAM, 0, 1, 1);
        x.dream(DREAM, 0, 1);
        x.set(5, 0, 45);
        x.set(5, 1, 25);
        x.night();
        return x;
    }

    private static void aRun() {
        // now 35 and 15: 1 pays once more, then OWES 10, 20, 30; 0 pays 3 times, then OWES 10, 20, 30
        int[][] rows = { // n, TAKEN, first, when, in at last
            {0, 0, -1, -1, 2}, {1, 20, -1, -1, 2}, {2, 30, -1, -1, 2}, {3, 40, -1, -1, 2}, {4, 40, 1, 3, 1},
            {5, 40, 1, 3, 1}, {6, 40, 1, 3, 0}, {60, 40, 1, 3, 0},
        };
        DreamsPayRent x = runner();
        for (int[] row : rows) {
            for (int what = 0; what < 4; what++) {
                CHECK.due("14 run(" + row[0] + ", " + what + ")", x.run(row[0], what), row[what + 1]);
            }
        }
        x.set(5, 0, 15);
        CHECK.due("14 two in one night: the lesser", x.run(60, 1), 0);
        CHECK.due("14 its night", x.run(60, 2), 3);
    }

    private static void aRunOfPurses() {
        DreamsPayRent x = runner();
        CHECK.due("14 PURSE of 0", x.run(2, 10), 15);
        CHECK.due("14 PURSE of 1", x.run(2, 11), 5);
        CHECK.due("14 PURSE of one that is out", x.run(60, 12), 100);
        CHECK.due("14 PURSE of 0 in the end", x.run(60, 10), 5);
    }

    private static void aRunIsInThought() {
        DreamsPayRent x = runner();
        x.run(60, 0);
        CHECK.due("14 THE NIGHT", x.count(2), 1);
        CHECK.due("14 TAKEN", x.count(3), 20);
        CHECK.due("14 in", x.count(1), 2);
        CHECK.due("14 PURSE", x.told(1, 5), 15);
        CHECK.due("14 OWE", x.told(1, 6), 0);
        x.night();
        x.night();
        CHECK.due("14 TAKEN in it alone", x.run(1, 0), 10);
    }

    private static void runRefuses() {
        DreamsPayRent x = runner();
        int[][] bad = {{-1, 0}, {61, 0}, {0, -1}, {0, 4}, {0, 9}, {0, 13}, {5, 14}, {61, 13},
            {0, Integer.MIN_VALUE}, {0, Integer.MAX_VALUE}};
        for (int[] row : bad) {
            CHECK.due("14 run(" + row[0] + ", " + row[1] + ")", x.run(row[0], row[1]), -2);
        }
        CHECK.due("14 run(0, 10), no DREAMS", new DreamsPayRent().run(0, 10), -2);
    }
}
