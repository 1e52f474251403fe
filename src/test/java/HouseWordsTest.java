/** What the document says of the house and its dreams (Terms 1, FITS, promises 1 to 7): a test for each sentence. */
public final class HouseWordsTest {
    private static final Words W = new Words("HouseWordsTest");
    private static final int NONE = -1, BAD = -2, STATE = -3, FULL = -4;
    private static final int MIN = Integer.MIN_VALUE, MAX = Integer.MAX_VALUE;
    private static final int DREAM = 0, SEA = 1, FLYING = 2, NIGHTMARE = 3, PARTY = 4, SIMPLE = 5;

    public static void main(String[] args) throws Exception {
        W.run(HouseWordsTest.class);
    }

    private static DreamsPayRent with(int kind, int number, int space) {
        DreamsPayRent x = new DreamsPayRent();
        x.dream(kind, number, space);
        return x;
    }

    // ---- Terms: rooms, walls, the night

    private static void rooms() {
        W.terms("ROOMS 0 .. 7");
        DreamsPayRent x = new DreamsPayRent();
        W.due("who(-1)", x.who(-1), BAD);
        W.due("who(0)", x.who(0), NONE);
        W.due("who(7)", x.who(7), NONE);
        W.due("who(8)", x.who(8), BAD);
    }

    private static void floors() {
        W.terms("on FLOOR r by 2 (cut)");
        DreamsPayRent x = with(DREAM, 0, 1);
        Check.rule(x, "rents floor; leaks 0; minds 0;");
        int[] floors = {0, 0, 1, 1, 2, 2, 3, 3};
        for (int room = 0; room < 8; room++) {
            W.due("floor of " + room, x.would(0, room, 1), floors[room]);
        }
    }

    private static void sizes() {
        W.terms("a SIZE (1 .. 40; 10 at first)");
        for (int room = 0; room < 8; room++) {
            DreamsPayRent x = new DreamsPayRent();
            W.due("told(" + room + ", 2)", x.told(room, 2), 10);
            W.due("set(2, " + room + ", 0)", x.set(2, room, 0), BAD);
            W.due("set(2, " + room + ", 41)", x.set(2, room, 41), BAD);
            W.due("set(2, " + room + ", 1)", x.set(2, room, 1), 10);
            W.due("set(2, " + room + ", 40)", x.set(2, room, 40), 1);
            W.due("told(" + room + ", 2)", x.told(room, 2), 40);
        }
    }

    private static void walls() {
        W.terms("WALLS 0 .. 9");
        DreamsPayRent x = new DreamsPayRent();
        W.due("leak(-1)", x.leak(-1), BAD);
        W.due("leak(0)", x.leak(0), 0);
        W.due("leak(9)", x.leak(9), 0);
        W.due("leak(10)", x.leak(10), BAD);
    }

    private static void wallsBetweenRooms() {
        W.terms("between ROOMS 0, 1; 2, 3; 4, 5; 6, 7 (WALLS 0 .. 3); 0, 2; 1, 3; 2, 4; 3, 5; 4, 6; 5, 7 (4 .. 9)");
        int[][] walls = {{0, 1}, {2, 3}, {4, 5}, {6, 7}, {0, 2}, {1, 3}, {2, 4}, {3, 5}, {4, 6}, {5, 7}};
        for (int one = 0; one < 8; one++) {
            for (int other = one + 1; other < 8; other++) {
                DreamsPayRent x = new DreamsPayRent();
                Check.rule(x, "rents 0; leaks space; minds 1;");
                Check.lodger(x, DREAM, 0, 3, one);
                Check.lodger(x, DREAM, 0, 4, other);
                for (int wall = 0; wall < 10; wall++) {
                    boolean between = walls[wall][0] == one && walls[wall][1] == other;
                    W.due("leak(" + wall + ") of " + one + ", " + other, x.leak(wall), between ? 7 : 0);
                }
            }
        }
    }

    private static void lined() {
        W.terms("LINED: some WALLS (bits; none at first)");
        DreamsPayRent x = new DreamsPayRent();
        W.due("told(0, 0)", x.told(0, 0), 0);
        W.due("set(0, 0, -1)", x.set(0, 0, -1), BAD);
        W.due("set(0, 0, 1024)", x.set(0, 0, 1024), BAD);
        W.due("set(0, 0, 1023)", x.set(0, 0, 1023), 0);
        for (int wall = 0; wall < 10; wall++) {
            W.due("set(0, 0, bit " + wall + ")", x.set(0, 0, 1 << wall), wall == 0 ? 1023 : 1 << (wall - 1));
        }
        W.due("set(0, 0, 0)", x.set(0, 0, 0), 512);
    }

    private static void theNight() {
        W.terms("THE NIGHT (0 .. 999; 0 at first)");
        DreamsPayRent x = new DreamsPayRent();
        W.due("told(0, 1)", x.told(0, 1), 0);
        W.due("count(2)", x.count(2), 0);
        W.due("set(1, 0, -1)", x.set(1, 0, -1), BAD);
        W.due("set(1, 0, 1000)", x.set(1, 0, 1000), BAD);
        W.due("set(1, 0, 999)", x.set(1, 0, 999), 0);
        W.due("set(1, 0, 0)", x.set(1, 0, 0), 999);
    }

    private static void takenAtFirst() {
        W.terms("TAKEN (0 at first)");
        W.due("count(3)", new DreamsPayRent().count(3), 0);
    }

    // ---- Terms: dreams

    private static void fiveDreams() {
        W.terms("DREAMS (5 at most, numbered from 0)");
        DreamsPayRent x = new DreamsPayRent();
        for (int i = 0; i < 5; i++) {
            W.due("the number of " + i, x.dream(DREAM, i, 1), i);
        }
        W.due("a sixth", x.dream(DREAM, 5, 1), FULL);
        for (int i = 0; i < 5; i++) {
            W.due("NUMBER of " + i, x.told(i, 3), i);
        }
        W.due("NUMBER of 5", x.told(5, 3), BAD);
    }

    private static void sixKinds() {
        W.terms("have a KIND: 0 DREAM, 1 SEA under DREAM, 2 FLYING under DREAM, 3 NIGHTMARE under SEA, 4 PARTY under FLYING,"
            + " 5 SIMPLE under DREAM");
        DreamsPayRent x = new DreamsPayRent();
        W.due("KIND -1", x.dream(-1, 0, 1), BAD);
        W.due("KIND 6", x.dream(6, 0, 1), BAD);
        int[][] under = {{0}, {0, 1}, {0, 2}, {0, 1, 3}, {0, 2, 4}, {0, 5}};
        for (int kind = 0; kind < 6; kind++) {
            DreamsPayRent y = with(kind, 7, 1);
            for (int k = 0; k < 6; k++) {
                int want = -13;
                for (int one : under[kind]) {
                    want = one == k ? 7 : want;
                }
                W.due(kind + " taken for " + k, y.taken(0, k), want);
            }
        }
    }

    private static void numbers() {
        W.terms("a NUMBER (0 .. 9)");
        DreamsPayRent x = new DreamsPayRent();
        W.due("dream(0, -1, 1)", x.dream(DREAM, -1, 1), BAD);
        W.due("dream(0, 10, 1)", x.dream(DREAM, 10, 1), BAD);
        W.due("dream(0, 0, 1)", x.dream(DREAM, 0, 1), 0);
        W.due("dream(0, 9, 1)", x.dream(DREAM, 9, 1), 1);
        W.due("set(3, 0, 10)", x.set(3, 0, 10), BAD);
        W.due("set(3, 1, -1)", x.set(3, 1, -1), BAD);
        W.due("set(3, 0, 9)", x.set(3, 0, 9), 0);
        W.due("set(3, 1, 0)", x.set(3, 1, 0), 9);
    }

    private static void spaces() {
        W.terms("a SPACE (1 .. 20)");
        DreamsPayRent x = new DreamsPayRent();
        W.due("dream(0, 0, 0)", x.dream(DREAM, 0, 0), BAD);
        W.due("dream(0, 0, 21)", x.dream(DREAM, 0, 21), BAD);
        W.due("dream(0, 0, 1)", x.dream(DREAM, 0, 1), 0);
        W.due("dream(0, 0, 20)", x.dream(DREAM, 0, 20), 1);
        W.due("set(4, 0, 21)", x.set(4, 0, 21), BAD);
        W.due("set(4, 1, 0)", x.set(4, 1, 0), BAD);
        W.due("set(4, 0, 20)", x.set(4, 0, 20), 1);
        W.due("set(4, 1, 1)", x.set(4, 1, 1), 20);
    }

    private static void purses() {
        W.terms("a PURSE (0 .. 9999; 100 as one comes)");
        DreamsPayRent x = with(DREAM, 0, 1);
        W.due("told(0, 5)", x.told(0, 5), 100);
        W.due("set(5, 0, -1)", x.set(5, 0, -1), BAD);
        W.due("set(5, 0, 10000)", x.set(5, 0, 10000), BAD);
        W.due("set(5, 0, 9999)", x.set(5, 0, 9999), 100);
        W.due("set(5, 0, 0)", x.set(5, 0, 0), 9999);
    }

    private static void oweings() {
        W.terms("OWE (0 .. 9999; 0 as one comes)");
        DreamsPayRent x = with(DREAM, 0, 1);
        W.due("told(0, 6)", x.told(0, 6), 0);
        W.due("set(6, 0, -1)", x.set(6, 0, -1), BAD);
        W.due("set(6, 0, 10000)", x.set(6, 0, 10000), BAD);
        W.due("set(6, 0, 9999)", x.set(6, 0, 9999), 0);
        W.due("set(6, 0, 0)", x.set(6, 0, 0), 9999);
    }

    private static void outAsTheyCome() {
        W.terms("are in a ROOM, or out (as one comes)");
        DreamsPayRent x = with(DREAM, 0, 1);
        W.due("told(0, 7)", x.told(0, 7), NONE);
        W.due("count(1)", x.count(1), 0);
        x.let(0, 0);
        W.due("told(0, 7), in ROOM 0", x.told(0, 7), 0);
        W.due("count(1), in ROOM 0", x.count(1), 1);
    }

    private static void noTwoInOne() {
        W.terms("no two in one");
        DreamsPayRent x = with(DREAM, 0, 1);
        x.dream(DREAM, 0, 1);
        for (int room = 0; room < 8; room++) {
            x.let(0, room);
            W.due("let(1, " + room + ")", x.let(1, room), FULL);
            W.due("who(" + room + ")", x.who(room), 0);
        }
    }

    private static void theConstants() {
        W.terms("NONE is -1; NO, where a long is answered, -4611686018427387904");
        W.due("NONE", DreamsPayRent.NONE, -1);
        W.due("NO", DreamsPayRent.NO, -4611686018427387904L);
        W.due("chance(0, 0, 0)", new DreamsPayRent().chance(0, 0, 0), -4611686018427387904L);
    }

    private static void quotients() {
        W.terms("Quotients are cut toward 0");
        W.due("NEEDS, half of 1", with(SIMPLE, 0, 1).told(0, 9), 0);
        W.due("NEEDS, half of 19", with(SIMPLE, 0, 19).told(0, 9), 9);
        W.due("PAYS, half of 11", with(NIGHTMARE, 1, 1).would(0, 0, 1), 5);
    }

    private static void refusalsOfTheHouse() {
        W.terms("Refusals, the first that the call's words name; they change nothing: BAD (-2: a number is none such or"
            + " not as told), STATE (-3), FULL (-4)");
        W.due("BAD", DreamsPayRent.BAD, -2);
        W.due("STATE", DreamsPayRent.STATE, -3);
        W.due("FULL", DreamsPayRent.FULL, -4);
        DreamsPayRent x = with(SEA, 0, 1);
        x.dream(SEA, 0, 1);
        x.let(0, 0);
        x.set(2, 0, 1);
        W.due("let: no such ROOM, and it would not FIT", x.let(1, 8), BAD);
        W.due("let: it does not FIT, and another one is there", x.let(1, 0), STATE);
        x.set(2, 0, 2);
        W.due("let: another one is there", x.let(1, 0), FULL);
    }

    // ---- Terms: what the kinds have of their own

    private static void needs() {
        W.terms("NEEDS: DREAM: SPACE; SEA: twice a DREAM's; FLYING: as a DREAM; NIGHTMARE: as a SEA; PARTY: NUMBER more"
            + " than a FLYING; SIMPLE: half (cut) of a DREAM's.");
        int[][] rows = { // NUMBER, SPACE, then NEEDS by KIND
            {0, 1, 1, 2, 1, 2, 1, 0}, {9, 20, 20, 40, 20, 40, 29, 10}, {9, 1, 1, 2, 1, 2, 10, 0},
            {1, 19, 19, 38, 19, 38, 20, 9}, {0, 20, 20, 40, 20, 40, 20, 10},
        };
        for (int[] row : rows) {
            for (int kind = 0; kind < 6; kind++) {
                W.due("KIND " + kind + ", NUMBER " + row[0] + ", SPACE " + row[1],
                    with(kind, row[0], row[1]).told(0, 9), row[2 + kind]);
            }
        }
    }

    private static void lies() {
        W.terms("LIES (on a FLOOR): DREAM: on any; SEA: on 0, 1; FLYING: on 2, 3; NIGHTMARE: as a SEA, or on 3; PARTY: as"
            + " a FLYING; SIMPLE: as a DREAM.");
        int[][] lies = {{1, 1, 1, 1}, {1, 1, 0, 0}, {0, 0, 1, 1}, {1, 1, 0, 1}, {0, 0, 1, 1}, {1, 1, 1, 1}};
        for (int kind = 0; kind < 6; kind++) {
            DreamsPayRent x = with(kind, 0, 1);
            for (int room = 0; room < 8; room++) {
                W.due("KIND " + kind + " in " + room, x.would(0, room, 0), lies[kind][room / 2]);
            }
        }
    }

    private static void pays() {
        W.terms("PAYS (rents telling v): DREAM: v; SEA: NUMBER more than a DREAM; FLYING: twice a DREAM's; NIGHTMARE: half"
            + " (cut) of a SEA's; PARTY: NUMBER more than a FLYING; SIMPLE: as a DREAM.");
        int[][] rows = { // v, NUMBER, then PAYS by KIND
            {0, 0, 0, 0, 0, 0, 0, 0}, {0, 9, 0, 9, 0, 4, 9, 0}, {1, 0, 1, 1, 2, 0, 2, 1}, {7, 2, 7, 9, 14, 4, 16, 7},
            {99, 9, 99, 108, 198, 54, 207, 99}, {98, 9, 98, 107, 196, 53, 205, 98},
        };
        for (int[] row : rows) {
            for (int kind = 0; kind < 6; kind++) {
                DreamsPayRent x = with(kind, row[1], 1);
                Check.rule(x, "rents " + row[0] + "; leaks 0; minds 0;");
                W.due("KIND " + kind + ", v " + row[0] + ", NUMBER " + row[1], x.would(0, 0, 1), row[2 + kind]);
            }
        }
    }

    private static void bears() {
        W.terms("BEARS (how much one may OWE): DREAM: 20; SEA: as a DREAM; FLYING: NUMBER more than a DREAM; NIGHTMARE: 20"
            + " less than a SEA; PARTY: as a FLYING; SIMPLE: 5 times NUMBER more than a DREAM.");
        int[][] bears = {{20, 20, 20, 0, 20, 20}, {20, 20, 21, 0, 21, 25}, {20, 20, 29, 0, 29, 65}};
        int[] numbers = {0, 1, 9};
        for (int i = 0; i < numbers.length; i++) {
            for (int kind = 0; kind < 6; kind++) {
                W.due("KIND " + kind + ", NUMBER " + numbers[i], with(kind, numbers[i], 1).told(0, 10), bears[i][kind]);
            }
        }
    }

    private static void paysInTheEnd() {
        W.terms("(PAYS 0 .. 999, else the bound, in the end.)");
        DreamsPayRent x = with(PARTY, 9, 1);
        x.dream(DREAM, 0, 1);
        Check.rule(x, "rents 9999; leaks 0; minds 0;");
        W.due("the most that one PAYS", x.would(0, 7, 1), 207);
        Check.rule(x, "rents 0 - 9999; leaks 0; minds 0;");
        W.due("PARTY by rents far below 0", x.would(0, 7, 1), 9);
        W.due("DREAM by rents far below 0", x.would(1, 7, 1), 0);
    }

    private static void fits() {
        W.terms("FITS (a DREAM, a ROOM): it LIES on that FLOOR, and NEEDS no more than SIZE.");
        int[] needs = {6, 12, 6, 12, 9, 3};
        boolean[][] lies = {{true, true, true, true}, {true, true, false, false}, {false, false, true, true},
            {true, true, false, true}, {false, false, true, true}, {true, true, true, true}};
        for (int kind = 0; kind < 6; kind++) {
            for (int room = 0; room < 8; room++) {
                DreamsPayRent x = with(kind, 3, 6);
                int want = lies[kind][room / 2] ? 1 : 0;
                x.set(2, room, needs[kind] - 1);
                W.due("KIND " + kind + " NEEDS 1 more than ROOM " + room + " has", x.would(0, room, 0), 0);
                x.set(2, room, needs[kind]);
                W.due("KIND " + kind + " NEEDS what ROOM " + room + " has", x.would(0, room, 0), want);
                x.set(2, room, 40);
                W.due("KIND " + kind + " NEEDS less than ROOM " + room + " has", x.would(0, room, 0), want);
            }
        }
    }

    // ---- Promise 1: a new object

    private static void aNewObject() {
        W.promise(1, "No DREAMS.");
        DreamsPayRent x = new DreamsPayRent();
        W.due("count(0)", x.count(0), 0);
        W.due("count(1)", x.count(1), 0);
        W.due("told(0, 8)", x.told(0, 8), BAD);
        W.due("let(0, 0)", x.let(0, 0), BAD);
        W.due("would(0, 0, 0)", x.would(0, 0, 0), BAD);
        W.due("set(3, 0, 0)", x.set(3, 0, 0), BAD);
        for (int room = 0; room < 8; room++) {
            W.due("who(" + room + ")", x.who(room), NONE);
        }
    }

    private static void objectsOfTheirOwn() {
        W.promise(1, "No DREAMS.");
        DreamsPayRent x = with(DREAM, 1, 2);
        x.let(0, 3);
        x.set(0, 0, 7);
        x.set(2, 0, 11);
        x.feed('r');
        x.sheet(0, 0, 1);
        x.image();
        DreamsPayRent y = new DreamsPayRent();
        W.due("beside another object: count(0)", y.count(0), 0);
        W.due("LINED", y.told(0, 0), 0);
        W.due("SIZE", y.told(0, 2), 10);
        W.due("THE TAPE", y.count(5), 0);
        W.due("SHEET", y.cell(0, 0, 0), -11);
        W.due("IMAGE", y.back(), STATE);
        y.dream(SEA, 9, 9);
        W.due("the other one's KIND", x.told(0, 8), DREAM);
    }

    // ---- Promise 2: set

    private static void setLined() {
        W.promise(2, "LINED (what 0; of does not matter)");
        DreamsPayRent x = new DreamsPayRent();
        W.due("set(0, MIN, 3)", x.set(0, MIN, 3), 0);
        W.due("set(0, MAX, 4)", x.set(0, MAX, 4), 3);
        W.due("set(0, 5, 1024)", x.set(0, 5, 1024), BAD);
        W.due("set(0, -1, 0)", x.set(0, -1, 0), 4);
    }

    private static void setTheNight() {
        W.promise(2, "THE NIGHT (1; nor)");
        DreamsPayRent x = new DreamsPayRent();
        W.due("set(1, MIN, 3)", x.set(1, MIN, 3), 0);
        W.due("set(1, MAX, 4)", x.set(1, MAX, 4), 3);
        W.due("set(1, 5, 1000)", x.set(1, 5, 1000), BAD);
        W.due("set(1, -1, 0)", x.set(1, -1, 0), 4);
    }

    private static void setSize() {
        W.promise(2, "SIZE of a ROOM (2)");
        DreamsPayRent x = new DreamsPayRent();
        W.due("set(2, -1, 5)", x.set(2, -1, 5), BAD);
        W.due("set(2, 8, 5)", x.set(2, 8, 5), BAD);
        for (int room = 0; room < 8; room++) {
            W.due("set(2, " + room + ", v)", x.set(2, room, 20 + room), 10);
        }
        for (int room = 0; room < 8; room++) {
            W.due("SIZE of " + room, x.told(room, 2), 20 + room);
        }
    }

    /** One thing of five DREAMS becomes 11 and more (of NUMBERS: 1 and more), each its own. */
    private static void setOfDreams(int what, int first, int base) {
        DreamsPayRent x = new DreamsPayRent();
        W.due("set(" + what + ", 0, " + base + ") without a DREAM", x.set(what, 0, base), BAD);
        for (int i = 0; i < 5; i++) {
            x.dream(DREAM, 3, 4);
        }
        W.due("set(" + what + ", -1, " + base + ")", x.set(what, -1, base), BAD);
        W.due("set(" + what + ", 5, " + base + ")", x.set(what, 5, base), BAD);
        for (int i = 0; i < 5; i++) {
            W.due("set(" + what + ", " + i + ", v)", x.set(what, i, base + i), first);
        }
        for (int i = 0; i < 5; i++) {
            for (int other = 3; other <= 6; other++) {
                int was = other == 3 ? 3 : other == 4 ? 4 : other == 5 ? 100 : 0;
                W.due("told(" + i + ", " + other + ")", x.told(i, other), other == what ? base + i : was);
            }
        }
    }

    private static void setNumber() {
        W.promise(2, "NUMBER (3)");
        setOfDreams(3, 3, 5);
    }

    private static void setSpace() {
        W.promise(2, "SPACE (4)");
        setOfDreams(4, 4, 11);
    }

    private static void setPurse() {
        W.promise(2, "PURSE (5) of a DREAM");
        setOfDreams(5, 100, 11);
    }

    private static void setOwe() {
        W.promise(2, "what it OWES (6)");
        setOfDreams(6, 0, 11);
    }

    private static void setBecomes() {
        W.promise(2, "becomes v: what it was");
        DreamsPayRent x = with(DREAM, 3, 4);
        int[][] rows = {{0, 0, 9}, {1, 0, 9}, {2, 10, 9}, {3, 3, 9}, {4, 4, 9}, {5, 100, 9}, {6, 0, 9}};
        for (int[] row : rows) {
            W.due("set(" + row[0] + ", 0, 9)", x.set(row[0], 0, 9), row[1]);
            W.due("the same again", x.set(row[0], 0, 9), 9);
            W.due("told", x.told(0, row[0]), 9);
        }
    }

    private static void setIsBad() {
        W.promise(2, "BAD");
        DreamsPayRent x = with(DREAM, 3, 4);
        W.due("set(-1, 0, 1)", x.set(-1, 0, 1), BAD);
        W.due("set(7, 0, 1)", x.set(7, 0, 1), BAD);
        W.due("set(8, 0, 1)", x.set(8, 0, 1), BAD);
        W.due("set(10, 0, 1)", x.set(10, 0, 1), BAD);
        W.due("set(MIN, 0, 1)", x.set(MIN, 0, 1), BAD);
        W.due("set(MAX, 0, 1)", x.set(MAX, 0, 1), BAD);
        for (int what = 0; what <= 6; what++) {
            W.due("set(" + what + ", 0, MIN)", x.set(what, 0, MIN), BAD);
            W.due("set(" + what + ", 0, MAX)", x.set(what, 0, MAX), BAD);
        }
        for (int what = 2; what <= 6; what++) {
            W.due("set(" + what + ", MIN, 1)", x.set(what, MIN, 1), BAD);
            W.due("set(" + what + ", MAX, 1)", x.set(what, MAX, 1), BAD);
        }
    }

    // ---- Promise 3: dream

    private static void aDream() {
        W.promise(3, "A DREAM: its number.");
        DreamsPayRent x = new DreamsPayRent();
        for (int i = 0; i < 5; i++) {
            W.due("dream " + i, x.dream(i + 1, 9 - i, 20 - i), i);
        }
        for (int i = 0; i < 5; i++) {
            W.due("KIND of " + i, x.told(i, 8), i + 1);
            W.due("NUMBER of " + i, x.told(i, 3), 9 - i);
            W.due("SPACE of " + i, x.told(i, 4), 20 - i);
        }
    }

    private static void dreamIsBadOrFull() {
        W.promise(3, "BAD; FULL.");
        DreamsPayRent x = new DreamsPayRent();
        int[][] bad = {{-1, 0, 1}, {6, 0, 1}, {0, -1, 1}, {0, 10, 1}, {0, 0, 0}, {0, 0, 21}, {MIN, 0, 1}, {MAX, 0, 1},
            {0, MIN, 1}, {0, MAX, 1}, {0, 0, MIN}, {0, 0, MAX}};
        for (int[] row : bad) {
            W.due("dream(" + row[0] + ", " + row[1] + ", " + row[2] + ")", x.dream(row[0], row[1], row[2]), BAD);
        }
        for (int i = 0; i < 5; i++) {
            W.due("none came of these", x.dream(DREAM, 0, 1), i);
        }
        W.due("a sixth", x.dream(DREAM, 0, 1), FULL);
        for (int[] row : bad) {
            W.due("BAD ahead of FULL", x.dream(row[0], row[1], row[2]), BAD);
        }
        W.due("count(0)", x.count(0), 5);
    }

    // ---- Promise 4: let

    private static void letInto() {
        W.promise(4, "A DREAM comes into a ROOM (NONE: out): where it was (NONE: out).");
        DreamsPayRent x = with(DREAM, 0, 1);
        W.due("out, as it was", x.let(0, NONE), NONE);
        W.due("into ROOM 0", x.let(0, 0), NONE);
        W.due("into ROOM 7", x.let(0, 7), 0);
        W.due("into the ROOM where it is", x.let(0, 7), 7);
        W.due("who(0)", x.who(0), NONE);
        W.due("who(7)", x.who(7), 0);
        W.due("out", x.let(0, NONE), 7);
        W.due("who(7)", x.who(7), NONE);
        W.due("out, as it was", x.let(0, NONE), NONE);
    }

    private static void letIsBad() {
        W.promise(4, "BAD;");
        DreamsPayRent x = with(FLYING, 0, 1);
        W.due("let(-1, 4)", x.let(-1, 4), BAD);
        W.due("let(1, 4)", x.let(1, 4), BAD);
        W.due("let(1, NONE)", x.let(1, NONE), BAD);
        W.due("let(0, -2)", x.let(0, -2), BAD);
        W.due("let(0, 8)", x.let(0, 8), BAD);
        W.due("let(0, MIN)", x.let(0, MIN), BAD);
        W.due("let(0, MAX)", x.let(0, MAX), BAD);
        W.due("let(MIN, 4)", x.let(MIN, 4), BAD);
        W.due("let(MAX, 4)", x.let(MAX, 4), BAD);
        W.due("it is out", x.told(0, 7), NONE);
    }

    private static void letIsState() {
        W.promise(4, "STATE: it doesn't FIT");
        DreamsPayRent x = with(FLYING, 0, 10);
        x.dream(FLYING, 0, 10);
        W.due("the FLOOR", x.let(0, 3), STATE);
        W.due("SIZE, just enough", x.let(0, 4), NONE);
        x.set(2, 5, 9);
        W.due("SIZE, 1 too little", x.let(0, 5), STATE);
        W.due("it stays", x.told(0, 7), 4);
        x.set(2, 4, 9);
        W.due("its own ROOM is too little now", x.let(0, 4), STATE);
        W.due("ahead of FULL", x.let(1, 4), STATE);
        W.due("out it may go", x.let(0, NONE), 4);
    }

    private static void letIsFull() {
        W.promise(4, "FULL: another one is there.");
        DreamsPayRent x = with(DREAM, 0, 1);
        x.dream(DREAM, 0, 1);
        x.let(0, 3);
        x.let(1, 4);
        W.due("let(1, 3)", x.let(1, 3), FULL);
        W.due("let(0, 4)", x.let(0, 4), FULL);
        W.due("both stay", x.who(3) * 10 + x.who(4), 1);
        x.let(0, NONE);
        W.due("it is empty now", x.let(1, 3), 4);
        W.due("two may both be out", x.let(1, NONE), 3);
    }

    // ---- Promise 5: told

    private static void toldAsSet() {
        W.promise(5, "What 0 .. 6 as of set()");
        DreamsPayRent x = with(DREAM, 3, 4);
        x.dream(DREAM, 5, 6);
        int[] first = {0, 0, 10, 5, 6, 100, 0};
        for (int what = 0; what <= 6; what++) {
            W.due("told(1, " + what + ")", x.told(1, what), first[what]);
            x.set(what, 1, 7 + what % 3);
            W.due("told(1, " + what + ")", x.told(1, what), 7 + what % 3);
        }
        W.due("LINED: of does not matter", x.told(MIN, 0), 7);
        W.due("THE NIGHT: nor", x.told(MAX, 1), 8);
    }

    private static void toldRoom() {
        W.promise(5, "7 the ROOM (NONE: out)");
        DreamsPayRent x = with(DREAM, 3, 4);
        W.due("out", x.told(0, 7), NONE);
        for (int room = 0; room < 8; room++) {
            x.let(0, room);
            W.due("in " + room, x.told(0, 7), room);
        }
        x.let(0, NONE);
        W.due("out again", x.told(0, 7), NONE);
    }

    private static void toldOfKind() {
        W.promise(5, "8 KIND, 9 NEEDS, 10 BEARS of a DREAM.");
        int[][] wants = {{6, 20}, {12, 20}, {6, 23}, {12, 0}, {9, 23}, {3, 35}};
        for (int kind = 0; kind < 6; kind++) {
            DreamsPayRent x = with(kind, 3, 6);
            W.due("KIND", x.told(0, 8), kind);
            W.due("NEEDS", x.told(0, 9), wants[kind][0]);
            W.due("BEARS", x.told(0, 10), wants[kind][1]);
        }
    }

    private static void toldIsBad() {
        W.promise(5, "BAD.");
        DreamsPayRent x = with(DREAM, 3, 4);
        W.due("told(0, -1)", x.told(0, -1), BAD);
        W.due("told(0, 11)", x.told(0, 11), BAD);
        W.due("told(0, MIN)", x.told(0, MIN), BAD);
        W.due("told(0, MAX)", x.told(0, MAX), BAD);
        W.due("told(-1, 2)", x.told(-1, 2), BAD);
        W.due("told(8, 2)", x.told(8, 2), BAD);
        for (int what = 3; what <= 10; what++) {
            W.due("told(-1, " + what + ")", x.told(-1, what), BAD);
            W.due("told(1, " + what + ")", x.told(1, what), BAD);
            W.due("told(MAX, " + what + ")", x.told(MAX, what), BAD);
        }
    }

    // ---- Promise 6: would

    private static void wouldDidItLie() {
        W.promise(6, "Of a DREAM, did it lie in a ROOM");
        DreamsPayRent x = with(DREAM, 0, 1);
        x.dream(DREAM, 0, 2);
        x.let(0, 3);
        x.let(1, 4);
        x.set(2, 4, 33);
        W.due("where it is", x.would(0, 3, 1), 11);
        W.due("where another one is", x.would(0, 4, 0), 1);
        W.due("PAYS there", x.would(0, 4, 1), 35);
        W.due("leaks there", x.would(0, 4, 2), 1);
        W.due("it lies where it did", x.told(0, 7), 3);
    }

    private static void wouldFit() {
        W.promise(6, "whether it FITS (what 0; 1, 0)");
        DreamsPayRent x = with(SEA, 0, 5);
        W.due("just", x.would(0, 3, 0), 1);
        W.due("the FLOOR", x.would(0, 4, 0), 0);
        x.set(4, 0, 6);
        W.due("SIZE", x.would(0, 3, 0), 0);
    }

    private static void wouldPay() {
        W.promise(6, "PAYS (1)");
        DreamsPayRent x = with(SEA, 4, 20);
        for (int room = 0; room < 8; room++) {
            W.due("whether it FITS or not", x.would(0, room, 1), 14 + room / 2);
        }
    }

    private static void wouldLeak() {
        W.promise(6, "leaks (2)");
        DreamsPayRent x = with(PARTY, 4, 20);
        Check.rule(x, "rents 1; leaks 10 * floor + number + size; minds 0;");
        for (int room = 0; room < 8; room++) {
            W.due("in " + room, x.would(0, room, 2), 14 + 10 * (room / 2));
        }
    }

    private static void wouldMind() {
        W.promise(6, "minds (3)");
        DreamsPayRent x = with(PARTY, 4, 20);
        Check.rule(x, "rents 1; leaks 0; minds floor + number;");
        for (int room = 0; room < 8; room++) {
            W.due("in " + room, x.would(0, room, 3), 4 + room / 2);
        }
    }

    private static void wouldIsBad() {
        W.promise(6, "BAD.");
        DreamsPayRent x = with(DREAM, 0, 1);
        int[][] bad = {{1, 0}, {-1, 0}, {MIN, 0}, {MAX, 0}, {0, 8}, {0, -1}, {0, MIN}, {0, MAX}};
        for (int[] row : bad) {
            for (int what = 0; what < 4; what++) {
                W.due("would(" + row[0] + ", " + row[1] + ", " + what + ")", x.would(row[0], row[1], what), BAD);
            }
        }
        for (int what : new int[] {-1, 4, MIN, MAX}) {
            W.due("would(0, 0, " + what + ")", x.would(0, 0, what), BAD);
        }
    }

    // ---- Promise 7: who

    private static void whoIsIn() {
        W.promise(7, "Who is in a ROOM.");
        DreamsPayRent x = new DreamsPayRent();
        int[] rooms = {7, 0, 3, 4, 1};
        for (int i = 0; i < 5; i++) {
            Check.lodger(x, DREAM, 0, 1, rooms[i]);
        }
        int[] wants = {1, 4, NONE, 2, 3, NONE, NONE, 0};
        for (int room = 0; room < 8; room++) {
            W.due("who(" + room + ")", x.who(room), wants[room]);
        }
    }

    private static void whoIsBadOrNone() {
        W.promise(7, "BAD; NONE.");
        DreamsPayRent x = with(DREAM, 0, 1);
        W.due("who(-1), as one is out", x.who(-1), BAD);
        W.due("who(8)", x.who(8), BAD);
        W.due("who(MIN)", x.who(MIN), BAD);
        W.due("who(MAX)", x.who(MAX), BAD);
        W.due("who(0)", x.who(0), NONE);
    }
}
