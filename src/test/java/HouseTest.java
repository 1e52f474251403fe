/** Promises 1 to 7: a new object, set, dream, let, told, would, who. */
public final class HouseTest {
    private static final Check CHECK = new Check("HouseTest");
    private static final int DREAM = 0, SEA = 1, FLYING = 2, NIGHTMARE = 3, PARTY = 4, SIMPLE = 5;

    public static void main(String[] args) {
        aNewObject();
        setAnswersWhatItWas();
        setRefuses();
        dreamsCome();
        dreamRefuses();
        letMoves();
        letRefuses();
        letFits();
        toldOfADream();
        toldRefuses();
        wouldPay();
        wouldFollowTheRule();
        wouldRefuses();
        whoIsThere();
        CHECK.end();
    }

    private static void aNewObject() {
        DreamsPayRent x = new DreamsPayRent();
        CHECK.due("1 count(0)", x.count(0), 0);
        CHECK.due("1 count(1)", x.count(1), 0);
        CHECK.due("1 THE NIGHT", x.count(2), 0);
        CHECK.due("1 TAKEN", x.count(3), 0);
        CHECK.due("1 TEXTS", x.count(4), 1);
        CHECK.due("1 THE TAPE", x.count(5), 0);
        CHECK.due("1 THE RULE", x.count(6), 0);
        CHECK.due("1 LINED", x.told(0, 0), 0);
        for (int room = 0; room < 8; room++) {
            CHECK.due("1 SIZE of " + room, x.told(room, 2), 10);
            CHECK.due("1 who in " + room, x.who(room), -1);
        }
        for (int sheet = 0; sheet < 4; sheet++) {
            CHECK.due("1 sheet " + sheet, x.cell(sheet, 0, 0), -11);
        }
        CHECK.due("1 back", x.back(), -3);
    }

    private static void setAnswersWhatItWas() {
        DreamsPayRent x = new DreamsPayRent();
        x.dream(DREAM, 3, 7);
        x.dream(DREAM, 4, 8);
        int[][] rows = { // what, of, first, least, most
            {0, 99, 0, 0, 1023}, {1, -5, 0, 0, 999}, {2, 0, 10, 1, 40}, {2, 7, 10, 1, 40}, {3, 1, 4, 0, 9},
            {4, 1, 8, 1, 20}, {5, 1, 100, 0, 9999}, {6, 1, 0, 0, 9999},
        };
        for (int[] row : rows) {
            String call = "2 set(" + row[0] + ", " + row[1] + ", ";
            CHECK.due(call + "most)", x.set(row[0], row[1], row[4]), row[2]);
            CHECK.due(call + "more)", x.set(row[0], row[1], row[4] + 1), -2);
            CHECK.due(call + "least)", x.set(row[0], row[1], row[3]), row[4]);
            CHECK.due(call + "less)", x.set(row[0], row[1], row[3] - 1), -2);
            CHECK.due(call + "told)", x.told(row[1], row[0]), row[3]);
        }
        CHECK.due("2 NUMBER of the other", x.told(0, 3), 3);
        CHECK.due("2 SPACE of the other", x.told(0, 4), 7);
        CHECK.due("2 PURSE of the other", x.told(0, 5), 100);
        CHECK.due("2 OWE of the other", x.told(0, 6), 0);
        CHECK.due("2 SIZE of another ROOM", x.told(3, 2), 10);
    }

    private static void setRefuses() {
        DreamsPayRent x = new DreamsPayRent();
        x.dream(DREAM, 3, 7);
        for (int what = 2; what <= 6; what++) {
            CHECK.due("2 set(" + what + ", -1, 1)", x.set(what, -1, 1), -2);
            CHECK.due("2 set(" + what + ", 8, 1)", x.set(what, 8, 1), -2);
        }
        CHECK.due("2 set(3, 1, 1)", x.set(3, 1, 1), -2);
        CHECK.due("2 set(6, 1, 1)", x.set(6, 1, 1), -2);
        CHECK.due("2 set(7, 0, 1)", x.set(7, 0, 1), -2);
        CHECK.due("2 set(8, 0, 1)", x.set(8, 0, 1), -2);
        CHECK.due("2 set(-1, 0, 1)", x.set(-1, 0, 1), -2);
        CHECK.due("2 set(0, 0, MIN)", x.set(0, 0, Integer.MIN_VALUE), -2);
        CHECK.due("2 ROOM is as it was", x.told(0, 7), -1);
        CHECK.due("2 one that no longer FITS stays", stays(), 0);
    }

    private static int stays() {
        DreamsPayRent x = new DreamsPayRent();
        Check.lodger(x, DREAM, 0, 10, 0);
        x.set(2, 0, 1);
        x.set(6, 0, 9999);
        return x.who(0);
    }

    private static void dreamsCome() {
        DreamsPayRent x = new DreamsPayRent();
        for (int i = 0; i < 5; i++) {
            CHECK.due("3 dream " + i, x.dream(i + 1, i + 5, 20 - i), i);
            CHECK.due("3 KIND", x.told(i, 8), i + 1);
            CHECK.due("3 NUMBER", x.told(i, 3), i + 5);
            CHECK.due("3 SPACE", x.told(i, 4), 20 - i);
            CHECK.due("3 PURSE", x.told(i, 5), 100);
            CHECK.due("3 OWE", x.told(i, 6), 0);
            CHECK.due("3 ROOM", x.told(i, 7), -1);
        }
        CHECK.due("3 FULL", x.dream(0, 0, 1), -4);
        CHECK.due("3 BAD ahead of FULL", x.dream(6, 0, 1), -2);
        CHECK.due("3 count", x.count(0), 5);
    }

    private static void dreamRefuses() {
        DreamsPayRent x = new DreamsPayRent();
        int[][] bad = {{-1, 0, 1}, {6, 0, 1}, {0, -1, 1}, {0, 10, 1}, {0, 0, 0}, {0, 0, 21}, {0, 0, -1}};
        for (int[] row : bad) {
            CHECK.due("3 dream(" + row[0] + ", " + row[1] + ", " + row[2] + ")", x.dream(row[0], row[1], row[2]), -2);
        }
        CHECK.due("3 none came", x.count(0), 0);
        CHECK.due("3 least", x.dream(0, 0, 1), 0);
        CHECK.due("3 most", x.dream(5, 9, 20), 1);
    }

    private static void letMoves() {
        DreamsPayRent x = new DreamsPayRent();
        x.dream(DREAM, 0, 10);
        CHECK.due("4 out to out", x.let(0, -1), -1);
        CHECK.due("4 in", x.let(0, 3), -1);
        CHECK.due("4 the same ROOM", x.let(0, 3), 3);
        CHECK.due("4 another", x.let(0, 7), 3);
        CHECK.due("4 the old one is empty", x.who(3), -1);
        CHECK.due("4 who", x.who(7), 0);
        CHECK.due("4 out", x.let(0, -1), 7);
        CHECK.due("4 who", x.who(7), -1);
    }

    private static void letRefuses() {
        DreamsPayRent x = new DreamsPayRent();
        Check.lodger(x, DREAM, 0, 10, 2);
        x.dream(FLYING, 0, 10);
        x.dream(DREAM, 0, 10);
        CHECK.due("4 let(3, 0)", x.let(3, 0), -2);
        CHECK.due("4 let(-1, 0)", x.let(-1, 0), -2);
        CHECK.due("4 let(0, 8)", x.let(0, 8), -2);
        CHECK.due("4 let(0, -2)", x.let(0, -2), -2);
        CHECK.due("4 STATE ahead of FULL", x.let(1, 2), -3);
        CHECK.due("4 FULL", x.let(2, 2), -4);
        CHECK.due("4 it is out still", x.told(2, 7), -1);
        x.set(2, 2, 9);
        CHECK.due("4 where it is it does not FIT", x.let(0, 2), -3);
        CHECK.due("4 it is there still", x.told(0, 7), 2);
        CHECK.due("4 out it may always go", x.let(0, -1), 2);
    }

    /** Each kind in each room, of the size it needs and of one less. */
    private static void letFits() {
        int[] needs = {7, 14, 7, 14, 12, 3};
        String[] floors = {"0123", "01", "23", "013", "23", "0123"};
        for (int kind = 0; kind < 6; kind++) {
            for (int room = 0; room < 8; room++) {
                DreamsPayRent x = new DreamsPayRent();
                x.dream(kind, 5, 7);
                boolean lies = floors[kind].indexOf('0' + room / 2) >= 0;
                x.set(2, room, needs[kind] - 1);
                CHECK.due("4 " + kind + " too small " + room, x.let(0, room), -3);
                CHECK.due("6 " + kind + " too small " + room, x.would(0, room, 0), 0);
                x.set(2, room, needs[kind]);
                CHECK.due("6 " + kind + " in " + room, x.would(0, room, 0), lies ? 1 : 0);
                CHECK.due("4 " + kind + " in " + room, x.let(0, room), lies ? -1 : -3);
                CHECK.due("7 " + kind + " in " + room, x.who(room), lies ? 0 : -1);
            }
        }
    }

    private static void toldOfADream() {
        int[] needs = {7, 14, 7, 14, 12, 3};
        int[] bears = {20, 20, 25, 0, 25, 45};
        for (int kind = 0; kind < 6; kind++) {
            DreamsPayRent x = new DreamsPayRent();
            x.dream(kind, 5, 7);
            CHECK.due("5 KIND", x.told(0, 8), kind);
            CHECK.due("5 NEEDS of " + kind, x.told(0, 9), needs[kind]);
            CHECK.due("5 BEARS of " + kind, x.told(0, 10), bears[kind]);
        }
        DreamsPayRent x = new DreamsPayRent();
        x.set(1, 0, 17);
        x.set(0, 0, 513);
        CHECK.due("5 LINED, of does not matter", x.told(-77, 0), 513);
        CHECK.due("5 THE NIGHT, of does not matter", x.told(77, 1), 17);
        Check.lodger(x, SIMPLE, 0, 1, 5);
        CHECK.due("5 half is cut", x.told(0, 9), 0);
        CHECK.due("5 ROOM", x.told(0, 7), 5);
    }

    private static void toldRefuses() {
        DreamsPayRent x = new DreamsPayRent();
        x.dream(DREAM, 0, 1);
        CHECK.due("5 told(8, 2)", x.told(8, 2), -2);
        CHECK.due("5 told(-1, 2)", x.told(-1, 2), -2);
        for (int what = 3; what <= 10; what++) {
            CHECK.due("5 told(1, " + what + ")", x.told(1, what), -2);
            CHECK.due("5 told(-1, " + what + ")", x.told(-1, what), -2);
        }
        CHECK.due("5 told(0, 11)", x.told(0, 11), -2);
        CHECK.due("5 told(0, -1)", x.told(0, -1), -2);
    }

    private static void wouldPay() {
        // SIZE 13 and floor 2: the first rule tells 15
        int[] pays = {15, 20, 30, 10, 35, 15};
        for (int kind = 0; kind < 6; kind++) {
            DreamsPayRent x = new DreamsPayRent();
            x.dream(kind, 5, 7);
            x.set(2, 4, 13);
            CHECK.due("6 PAYS of " + kind, x.would(0, 4, 1), pays[kind]);
            CHECK.due("6 leaks of " + kind, x.would(0, 4, 2), 7);
            CHECK.due("6 minds of " + kind, x.would(0, 4, 3), 0);
        }
        DreamsPayRent x = new DreamsPayRent();
        x.dream(NIGHTMARE, 8, 1);
        CHECK.due("6 half is cut", x.would(0, 2, 1), 9);
        x.set(3, 0, 9);
        CHECK.due("6 half of an odd NUMBER more", x.would(0, 0, 1), 9);
        Check.rule(x, "rents 9999; leaks 9999; minds 9999;");
        CHECK.due("6 rents' bound", x.would(0, 0, 1), 54);
        CHECK.due("6 leaks' bound", x.would(0, 0, 2), 99);
        CHECK.due("6 minds' bound", x.would(0, 0, 3), 9);
        Check.rule(x, "rents -1; leaks -1; minds -1;");
        CHECK.due("6 rents below 0", x.would(0, 0, 1), 4);
        CHECK.due("6 leaks below 0", x.would(0, 0, 2), 0);
        CHECK.due("6 minds below 0", x.would(0, 0, 3), 0);
        Check.rule(x, "rents 98 + number - 8; leaks 98 + number - 8; minds number - 1;");
        x.set(3, 0, 9);
        x.dream(DREAM, 9, 1);
        x.dream(DREAM, 0, 1);
        CHECK.due("6 rents, just the bound", x.would(1, 0, 1), 99);
        CHECK.due("6 leaks, just the bound", x.would(1, 0, 2), 99);
        CHECK.due("6 minds, just within", x.would(1, 0, 3), 8);
        CHECK.due("6 minds, 1 below 0", x.would(2, 0, 3), 0);
        Check.rule(x, "rents 100; leaks 100; minds 10;");
        CHECK.due("6 rents, 1 above", x.would(1, 0, 1), 99);
        CHECK.due("6 leaks, 1 above", x.would(1, 0, 2), 99);
        CHECK.due("6 minds, 1 above", x.would(1, 0, 3), 9);
        x.dream(PARTY, 9, 1);
        Check.rule(x, "rents 99; leaks 99; minds 9;");
        CHECK.due("6 rents' most", x.would(3, 0, 1), 207);
        CHECK.due("6 leaks' most", x.would(3, 0, 2), 99);
        CHECK.due("6 minds' most", x.would(3, 0, 3), 9);
    }

    private static void wouldFollowTheRule() {
        String[] names = {"size", "floor", "night", "number", "owes", "space"};
        int[] wants = {33, 3, 21, 4, 60, 16};
        for (int i = 0; i < names.length; i++) {
            DreamsPayRent x = new DreamsPayRent();
            x.dream(DREAM, 1, 1);
            x.dream(DREAM, 4, 16);
            x.set(2, 6, 33);
            x.set(1, 0, 21);
            x.set(6, 1, 60);
            Check.rule(x, "rents " + names[i] + "; leaks " + names[i] + "+1; minds " + names[i] + "- 14;");
            CHECK.due("6 rents " + names[i], x.would(1, 6, 1), wants[i]);
            CHECK.due("6 leaks " + names[i], x.would(1, 6, 2), wants[i] + 1);
            CHECK.due("6 minds " + names[i], x.would(1, 6, 3), Math.max(0, Math.min(9, wants[i] - 14)));
        }
    }

    private static void wouldRefuses() {
        DreamsPayRent x = new DreamsPayRent();
        x.dream(DREAM, 0, 1);
        int[][] bad = {{1, 0, 0}, {-1, 0, 0}, {0, 8, 0}, {0, -1, 0}, {0, 0, 4}, {0, 0, -1}};
        for (int[] row : bad) {
            CHECK.due("6 would(" + row[0] + ", " + row[1] + ", " + row[2] + ")", x.would(row[0], row[1], row[2]), -2);
        }
        CHECK.due("6 nobody moved", x.count(1), 0);
    }

    private static void whoIsThere() {
        DreamsPayRent x = new DreamsPayRent();
        x.dream(SEA, 0, 1);
        Check.lodger(x, DREAM, 0, 1, 7);
        CHECK.due("7 who(7)", x.who(7), 1);
        CHECK.due("7 who(0)", x.who(0), -1);
        CHECK.due("7 who(8)", x.who(8), -2);
        CHECK.due("7 who(-1)", x.who(-1), -2);
    }
}
