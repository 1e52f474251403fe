/** Promises 26 to 30: sheet, cell, copy, dreams, taken. */
public final class HostTest {
    private static final Check CHECK = new Check("HostTest");
    private static final int MAX = Integer.MAX_VALUE, MIN = Integer.MIN_VALUE;

    public static void main(String[] args) {
        sheetBecomes();
        sheetRefuses();
        cellCuts();
        cellRefuses();
        copyMoves();
        copyWithinOne();
        copyRefuses();
        dreamsCome();
        dreamsAreLeftOut();
        dreamsRefuse();
        dreamsOutside();
        takenForOne();
        takenRefuses();
        CHECK.end();
    }

    /** A cell can only be seen through others: the sheet's 8 from i on are told as one DREAM's rents. */
    private static int seen(DreamsPayRent x, int sheet, int i) {
        x.set(1, 0, 0);
        for (int v = 0; v < 100; v++) {
            x.set(1, 0, v);
            if (x.rents(sheet, 0, 0) == i) {
                continue;
            }
            return v;
        }
        return -1;
    }

    private static void sheetBecomes() {
        for (int sheet = 0; sheet < 4; sheet++) {
            for (int sort = 0; sort < 3; sort++) {
                DreamsPayRent x = new DreamsPayRent();
                CHECK.due("26 sheet", x.sheet(sheet, sort, 40), 1);
                CHECK.due("26 its last", x.cell(sheet, 39, 1), 1);
                CHECK.due("26 behind it", x.cell(sheet, 40, 1), -12);
                CHECK.due("26 its sort", x.dreams(sheet, sort, 0, 0), 0);
                CHECK.due("26 another sort", x.dreams(sheet, (sort + 1) % 3, 0, 0), -13);
                CHECK.due("26 another SHEET", x.cell((sheet + 1) % 4, 0, 1), -11);
                CHECK.due("26 a row of 0", x.sheet(sheet, sort, 0), 1);
                CHECK.due("26 it has none", x.cell(sheet, 0, 1), -12);
                CHECK.due("26 missing, n does not matter", x.sheet(sheet, -1, MAX), 1);
                CHECK.due("26 it is", x.cell(sheet, 0, 1), -11);
                CHECK.due("26 missing again, n below 0", x.sheet(sheet, -1, -1), 1);
            }
        }
        DreamsPayRent x = new DreamsPayRent();
        x.dream(0, 0, 1);
        Check.rule(x, "rents night; leaks 0; minds 0;");
        Check.row(x, 0, 5, 5, 5, 5, 5, 5, 5, 5);
        CHECK.due("26 anew", x.sheet(0, 2, 8), 1);
        CHECK.due("26 all 0", x.rents(0, 0, 0), -1);
        Check.row(x, 0, 5, 5, 5, 5, 5, 5, 5, 5);
        x.sheet(0, 2, 0);
        x.sheet(0, 1, 8);
        CHECK.due("26 all 0 of another sort", x.rents(0, 0, 0), -1);
    }

    private static void sheetRefuses() {
        DreamsPayRent x = new DreamsPayRent();
        x.sheet(0, 1, 2);
        int[][] bad = {{-1, 0, 1}, {4, 0, 1}, {4, -1, 1}, {0, 3, 1}, {0, -2, 1}, {0, 0, 41}, {0, 2, MAX}, {4, 0, -1},
            {0, 3, -1}};
        for (int[] row : bad) {
            CHECK.due("26 sheet(" + row[0] + ", " + row[1] + ", " + row[2] + ")", x.sheet(row[0], row[1], row[2]), -2);
        }
        CHECK.due("26 below 0", x.sheet(0, 0, -1), -14);
        CHECK.due("26 below 0", x.sheet(0, 2, MIN), -14);
        CHECK.due("26 it is as it was", x.dreams(0, 1, 0, 0), 0);
        CHECK.due("26 of 2", x.cell(0, 1, 0), 1);
        CHECK.due("26 of 2", x.cell(0, 2, 0), -12);
    }

    private static void cellCuts() {
        int[] given = {256 + 9, 65536 + 9, 65536 * 2 + 256 + 9, -65536 - 247, 9};
        for (int v : given) {
            for (int sort = 0; sort < 3; sort++) {
                int want = sort == 0 ? (byte) v : sort == 1 ? (short) v : v;
                DreamsPayRent x = new DreamsPayRent();
                x.sheet(3, sort, 3);
                CHECK.due("27 cell", x.cell(3, 0, 5), 1);
                CHECK.due("27 cell", x.cell(3, 1, v), 1);
                CHECK.due("27 cell", x.cell(3, 2, 1), 1);
                // as a NUMBER: 9 comes, what is more or less does not
                CHECK.due("27 " + v + " of sort " + sort, x.dreams(3, sort, 0, 1), want >= 0 && want <= 9 ? 1 : 0);
                CHECK.due("27 " + v + " of sort " + sort, x.told(0, 3), want >= 0 && want <= 9 ? want : -2);
            }
        }
        DreamsPayRent x = new DreamsPayRent();
        x.dream(0, 0, 1);
        Check.rule(x, "rents night; leaks 0; minds 0;");
        x.sheet(0, 0, 8);
        x.cell(0, 0, 42);
        CHECK.due("27 cell 0", seen(x, 0, 0), 42);
        x.cell(0, 0, 128);
        CHECK.due("27 a byte of 128 is below 0", seen(x, 0, 0), -1);
    }

    private static void cellRefuses() {
        DreamsPayRent x = new DreamsPayRent();
        x.sheet(0, 1, 3);
        CHECK.due("27 cell(-1, 0, 0)", x.cell(-1, 0, 0), -2);
        CHECK.due("27 cell(4, 9, 0)", x.cell(4, 9, 0), -2);
        CHECK.due("27 cell(1, 9, 0)", x.cell(1, 9, 0), -11);
        CHECK.due("27 cell(0, 3, 0)", x.cell(0, 3, 0), -12);
        CHECK.due("27 cell(0, -1, 0)", x.cell(0, -1, 0), -12);
        CHECK.due("27 cell(0, MAX, 0)", x.cell(0, MAX, 0), -12);
        CHECK.due("27 cell(0, 2, 0)", x.cell(0, 2, 0), 1);
    }

    /** The DREAM's NUMBERS that a sheet of ints holds from an item on, as digits. */
    private static long numbers(DreamsPayRent x, int sheet, int n) {
        x.image();
        long digits = 0;
        for (int i = 0; i < n; i++) {
            x.sheet(3, 2, 3);
            x.cell(3, 2, 1);
            x.copy(sheet, i, 3, 1, 1);
            x.dreams(3, 2, 0, 1);
            digits = digits * 10 + x.told(0, 3);
            x.back();
        }
        return digits;
    }

    private static void copyMoves() {
        DreamsPayRent x = new DreamsPayRent();
        Check.row(x, 0, 1, 2, 3, 4, 5);
        Check.row(x, 1, 9, 9, 9, 9, 9, 9);
        CHECK.due("28 copy", x.copy(0, 1, 1, 2, 3), 3);
        CHECK.due("28 came", numbers(x, 1, 6), 992349);
        CHECK.due("28 the first is as it was", numbers(x, 0, 5), 12345);
        CHECK.due("28 none", x.copy(0, 0, 1, 0, 0), 0);
        CHECK.due("28 none, at the ends", x.copy(0, 5, 1, 6, 0), 0);
        CHECK.due("28 all", x.copy(0, 0, 1, 1, 5), 5);
        CHECK.due("28 came", numbers(x, 1, 6), 912345);
    }

    private static void copyWithinOne() {
        DreamsPayRent x = new DreamsPayRent();
        Check.row(x, 0, 1, 2, 3, 4, 5);
        CHECK.due("28 on", x.copy(0, 0, 0, 1, 4), 4);
        CHECK.due("28 as they were", numbers(x, 0, 5), 11234);
        Check.row(x, 0, 1, 2, 3, 4, 5);
        CHECK.due("28 ahead", x.copy(0, 1, 0, 0, 4), 4);
        CHECK.due("28 as they were", numbers(x, 0, 5), 23455);
    }

    private static void copyRefuses() {
        DreamsPayRent x = new DreamsPayRent();
        Check.row(x, 0, 1, 2, 3, 4, 5);
        Check.row(x, 1, 6, 7, 8);
        x.sheet(2, 1, 9);
        int[][] rows = { // sheet, i, other, j, n, due
            {-1, 0, 1, 0, 1, -2}, {4, 0, 1, 0, 1, -2}, {0, 0, -1, 0, 1, -2}, {0, 0, 4, 0, 1, -2}, {3, 0, 4, 0, 1, -2},
            {3, 0, 0, 0, 1, -11}, {0, 0, 3, 0, 1, -11}, {3, 0, 3, 0, 0, -11}, {2, 0, 3, 0, 1, -11},
            {0, 0, 2, 0, 1, -13}, {2, 0, 0, 0, -1, -13}, {2, 99, 0, 0, 1, -13},
            {0, 0, 1, 0, -1, -12}, {0, -1, 1, 0, 1, -12}, {0, 0, 1, -1, 1, -12}, {0, 3, 1, 0, 3, -12},
            {0, 0, 1, 1, 3, -12}, {0, 6, 1, 0, 0, -12}, {0, 0, 1, 4, 0, -12}, {0, MAX, 1, 0, 1, -12},
            {0, 1, 1, 0, MAX, -12}, {0, 0, 1, MAX, MAX, -12}, {0, MIN, 1, 0, MIN, -12}, {0, 0, 0, 1, 5, -12},
        };
        for (int[] r : rows) {
            CHECK.due("28 copy(" + r[0] + ", " + r[1] + ", " + r[2] + ", " + r[3] + ", " + r[4] + ")",
                x.copy(r[0], r[1], r[2], r[3], r[4]), r[5]);
        }
        CHECK.due("28 as it was", numbers(x, 0, 5), 12345);
        CHECK.due("28 as it was", numbers(x, 1, 3), 678);
    }

    private static void dreamsCome() {
        for (int sort = 0; sort < 3; sort++) {
            DreamsPayRent x = new DreamsPayRent();
            int[] numbers = {99, 3, 7, 11, 5, 9, 20, 0, 0, 1};
            x.sheet(1, sort, numbers.length);
            for (int i = 0; i < numbers.length; i++) {
                x.cell(1, i, numbers[i]);
            }
            CHECK.due("29 none asked", x.dreams(1, sort, 1, 0), 0);
            CHECK.due("29 none asked from outside", x.dreams(1, sort, 99, 0), 0);
            CHECK.due("29 none came", x.count(0), 0);
            CHECK.due("29 three", x.dreams(1, sort, 1, 3), 3);
            int[][] wants = {{3, 7, 11}, {5, 9, 20}, {0, 0, 1}};
            for (int i = 0; i < 3; i++) {
                CHECK.due("29 KIND", x.told(i, 8), wants[i][0]);
                CHECK.due("29 NUMBER", x.told(i, 3), wants[i][1]);
                CHECK.due("29 SPACE", x.told(i, 4), wants[i][2]);
                CHECK.due("29 PURSE", x.told(i, 5), 100);
                CHECK.due("29 out", x.told(i, 7), -1);
            }
            CHECK.due("29 the last of them", x.dreams(1, sort, 7, 1), 1);
        }
    }

    private static void dreamsAreLeftOut() {
        DreamsPayRent x = new DreamsPayRent();
        Check.row(x, 0, 6, 0, 1, 1, 2, 3, 0, 10, 1, 2, 4, 5, 0, 0, 21);
        CHECK.due("29 BAD ones are left out", x.dreams(0, 2, 0, 5), 2);
        CHECK.due("29 the first", x.told(0, 8), 1);
        CHECK.due("29 the second", x.told(1, 8), 2);
        Check.row(x, 0, 1, 2, 3, 1, 2, 3, 1, 2, 3, 1, 2, 3, 1, 2, 3);
        CHECK.due("29 by FULL too", x.dreams(0, 2, 0, 5), 3);
        CHECK.due("29 FULL", x.count(0), 5);
        CHECK.due("29 FULL, and outside", x.dreams(0, 2, 12, 2), -12);
        CHECK.due("29 FULL alone", x.dreams(0, 2, 0, 5), 0);
    }

    private static void dreamsRefuse() {
        DreamsPayRent x = new DreamsPayRent();
        Check.row(x, 0, 1, 2, 3);
        int[][] rows = { // sheet, sort, from, n, due
            {-1, 2, 0, 1, -2}, {4, 2, 0, 1, -2}, {0, -1, 0, 1, -2}, {0, 3, 0, 1, -2}, {0, 2, 0, -1, -2},
            {0, 2, 0, 6, -2}, {1, 2, 0, 6, -2}, {1, 3, 0, 1, -2}, {0, 1, 99, 1, -13}, {0, 0, 0, 0, -13},
            {1, 0, 0, 1, -11}, {1, 2, 99, 0, -11},
        };
        for (int[] r : rows) {
            CHECK.due("29 dreams(" + r[0] + ", " + r[1] + ", " + r[2] + ", " + r[3] + ")",
                x.dreams(r[0], r[1], r[2], r[3]), r[4]);
        }
        CHECK.due("29 none came", x.count(0), 0);
    }

    private static void dreamsOutside() {
        DreamsPayRent x = new DreamsPayRent();
        Check.row(x, 0, 1, 2, 3, 4, 5, 6, 0, 0);
        CHECK.due("29 from -1", x.dreams(0, 2, -1, 1), -12);
        CHECK.due("29 from MIN", x.dreams(0, 2, MIN, 1), -12);
        CHECK.due("29 from MAX", x.dreams(0, 2, MAX, 1), -12);
        CHECK.due("29 from 6", x.dreams(0, 2, 6, 1), -12);
        CHECK.due("29 none came", x.count(0), 0);
        CHECK.due("29 from 0", x.dreams(0, 2, 0, 3), -12);
        CHECK.due("29 what stood ahead came", x.count(0), 2);
        CHECK.due("29 the second", x.told(1, 3), 5);
    }

    private static void takenForOne() {
        boolean[][] under = { // by kind, then by k
            {true, false, false, false, false, false}, {true, true, false, false, false, false},
            {true, false, true, false, false, false}, {true, true, false, true, false, false},
            {true, false, true, false, true, false}, {true, false, false, false, false, true},
        };
        for (int kind = 0; kind < 6; kind++) {
            DreamsPayRent x = new DreamsPayRent();
            x.dream(0, 1, 1);
            x.dream(kind, kind + 2, 1);
            for (int k = 0; k < 6; k++) {
                CHECK.due("30 " + kind + " for " + k, x.taken(1, k), under[kind][k] ? kind + 2 : -13);
            }
        }
    }

    private static void takenRefuses() {
        DreamsPayRent x = new DreamsPayRent();
        x.dream(0, 1, 1);
        CHECK.due("30 taken(0, -1)", x.taken(0, -1), -2);
        CHECK.due("30 taken(0, 6)", x.taken(0, 6), -2);
        CHECK.due("30 taken(9, 6)", x.taken(9, 6), -2);
        CHECK.due("30 taken(1, 0)", x.taken(1, 0), -11);
        CHECK.due("30 taken(-1, 0)", x.taken(-1, 0), -11);
        CHECK.due("30 taken(0, 1)", x.taken(0, 1), -13);
    }
}
