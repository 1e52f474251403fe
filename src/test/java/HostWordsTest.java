/** What the document says of the host (Terms 3, promises 26 to 30): a test for each sentence. */
public final class HostWordsTest {
    private static final Words W = new Words("HostWordsTest");
    private static final int NONE = -1, BAD = -2, MISSING = -11, OUTSIDE = -12, OTHER_SORT = -13, BELOW_ZERO = -14;
    private static final int MIN = Integer.MIN_VALUE, MAX = Integer.MAX_VALUE;
    private static final int READER = 3;

    public static void main(String[] args) throws Exception {
        W.run(HostWordsTest.class);
    }

    /** A house with a DREAM by whose rents an item of a SHEET can be read. */
    private static DreamsPayRent host() {
        DreamsPayRent x = new DreamsPayRent();
        x.dream(0, 0, 1);
        Check.rule(x, "rents night; leaks 0; minds 0;");
        return x;
    }

    /** Item i of a SHEET, if it is 0 .. 99, else NONE: the NIGHT by which a row of it alone would be so. */
    private static int item(DreamsPayRent x, int sheet, int sort, int i) {
        x.sheet(READER, sort, 8);
        for (int room = 0; room < 8; room++) {
            x.copy(sheet, i, READER, room, 1);
        }
        return x.rents(READER, 0, 5);
    }

    private static void items(String of, DreamsPayRent x, int sheet, int sort, int... wants) {
        for (int i = 0; i < wants.length; i++) {
            W.due(of + ": item " + i, item(x, sheet, sort, i), wants[i]);
        }
        W.due(of + ": its end", x.cell(sheet, wants.length, 0), OUTSIDE);
    }

    private static void row(DreamsPayRent x, int sheet, int sort, int... numbers) {
        x.sheet(sheet, sort, numbers.length);
        for (int i = 0; i < numbers.length; i++) {
            x.cell(sheet, i, numbers[i]);
        }
    }

    // ---- Terms

    private static void fourSheets() {
        W.terms("SHEETS 0 .. 3 are rows of numbers, or missing (as all are at first)");
        DreamsPayRent x = new DreamsPayRent();
        for (int sheet = 0; sheet < 4; sheet++) {
            W.due("cell(" + sheet + ", 0, 0)", x.cell(sheet, 0, 0), MISSING);
        }
        W.due("cell(-1, 0, 0)", x.cell(-1, 0, 0), BAD);
        W.due("cell(4, 0, 0)", x.cell(4, 0, 0), BAD);
        for (int sheet = 0; sheet < 4; sheet++) {
            x.sheet(sheet, sheet % 3, sheet);
        }
        for (int sheet = 0; sheet < 4; sheet++) {
            W.due("each of its own size: " + sheet, x.cell(sheet, sheet, 0), OUTSIDE);
            W.due("each of its own size: " + sheet, x.cell(sheet, sheet - 1, 0), sheet == 0 ? OUTSIDE : 1);
            W.due("each of its own sort: " + sheet, x.dreams(sheet, sheet % 3, 0, 0), 0);
        }
    }

    private static void threeSorts() {
        W.terms("of sort 0 bytes, 1 shorts, 2 ints.");
        int[][] rows = { // v, then what a byte, a short, an int of it is (NONE: not 0 .. 99)
            {99, 99, 99, 99}, {256 + 42, 42, NONE, NONE}, {65536 + 42, 42, 42, NONE}, {65536 + 256 + 42, 42, NONE, NONE},
            {-256 + 7, 7, NONE, NONE}, {-65536 + 7, 7, 7, NONE}, {-1, NONE, NONE, NONE}, {MIN, 0, 0, NONE},
        };
        for (int[] row : rows) {
            for (int sort = 0; sort < 3; sort++) {
                DreamsPayRent x = host();
                row(x, 0, sort, row[0]);
                items(row[0] + " of sort " + sort, x, 0, sort, row[1 + sort]);
            }
        }
    }

    private static void bytesAndShortsBelowZero() {
        W.terms("of sort 0 bytes, 1 shorts, 2 ints.");
        int[][] rows = {{0, 1, 1}, {127, 1, 1}, {128, 0, 1}, {198, 0, 1}, {199, 0, 1}};
        for (int[] row : rows) {
            DreamsPayRent x = new DreamsPayRent();
            x.dream(4, row[0] % 2, 1);
            Check.rule(x, "rents " + row[0] / 2 + "; leaks 0; minds 0;");
            for (int sort = 0; sort < 2; sort++) {
                row(x, 0, sort, row[0], row[0], row[0], row[0], row[0], row[0], row[0], row[0]);
                W.due(row[0] + " of sort " + sort, x.rents(0, 0, 0), row[1 + sort] == 1 ? NONE : 0);
            }
        }
    }

    private static void theHostsRefusals() {
        W.terms("the host's: -11 nothing where something is asked, -12 a place outside, -13 a thing of another sort or KIND,"
            + " -14 a size below 0.");
        DreamsPayRent x = host();
        W.due("nothing: a SHEET", x.cell(0, 0, 0), -11);
        W.due("nothing: a DREAM", x.taken(1, 0), -11);
        x.sheet(0, 0, 3);
        W.due("outside", x.cell(0, 3, 0), -12);
        W.due("another sort", x.dreams(0, 1, 0, 1), -13);
        W.due("another KIND", x.taken(0, 1), -13);
        W.due("a size below 0", x.sheet(0, 0, -1), -14);
    }

    // ---- Promise 26: sheet

    private static void aRow() {
        W.promise(26, "A SHEET becomes a row of n of a sort, all 0");
        for (int sort = 0; sort < 3; sort++) {
            DreamsPayRent x = host();
            for (int n : new int[] {0, 1, 40}) {
                W.due("sheet(1, " + sort + ", " + n + ")", x.sheet(1, sort, n), 1);
                W.due("its last", x.cell(1, n - 1, 5), n == 0 ? OUTSIDE : 1);
                W.due("behind it", x.cell(1, n, 5), OUTSIDE);
                W.due("its sort", x.dreams(1, sort, 0, 0), 0);
            }
            row(x, 1, sort, 1, 2, 3, 4);
            W.due("anew", x.sheet(1, sort, 4), 1);
            items("anew", x, 1, sort, 0, 0, 0, 0);
            row(x, 1, sort, 1, 2, 3, 4);
            x.sheet(1, (sort + 1) % 3, 2);
            items("of another sort", x, 1, (sort + 1) % 3, 0, 0);
            x.sheet(1, sort, 4);
            items("longer again", x, 1, sort, 0, 0, 0, 0);
        }
    }

    private static void aMissingOne() {
        W.promise(26, "or missing (sort -1: n does not matter): 1.");
        DreamsPayRent x = host();
        for (int n : new int[] {0, 8, 40, 41, -1, MIN, MAX}) {
            x.sheet(1, 2, 3);
            W.due("sheet(1, -1, " + n + ")", x.sheet(1, -1, n), 1);
            W.due("it is missing", x.cell(1, 0, 0), MISSING);
            W.due("missing as it was", x.sheet(1, -1, n), 1);
        }
        row(x, 1, 0, 5, 6);
        x.sheet(1, -1, 0);
        x.sheet(1, 0, 2);
        items("what it had is gone", x, 1, 0, 0, 0);
    }

    private static void sheetIsBad() {
        W.promise(26, "BAD: no such SHEET, sort; n above 40;");
        DreamsPayRent x = host();
        row(x, 1, 1, 5, 6);
        for (int sheet : new int[] {-1, 4, MIN, MAX}) {
            W.due("sheet(" + sheet + ", 0, 1)", x.sheet(sheet, 0, 1), BAD);
            W.due("sheet(" + sheet + ", -1, 1)", x.sheet(sheet, -1, 1), BAD);
            W.due("ahead of -14", x.sheet(sheet, 0, -1), BAD);
        }
        for (int sort : new int[] {-2, 3, MIN, MAX}) {
            W.due("sheet(1, " + sort + ", 1)", x.sheet(1, sort, 1), BAD);
            W.due("ahead of -14", x.sheet(1, sort, -1), BAD);
        }
        for (int sort = 0; sort < 3; sort++) {
            W.due("sheet(1, " + sort + ", 41)", x.sheet(1, sort, 41), BAD);
            W.due("sheet(1, " + sort + ", MAX)", x.sheet(1, sort, MAX), BAD);
        }
        items("as it was", x, 1, 1, 5, 6);
    }

    private static void sheetBelowZero() {
        W.promise(26, "-14.");
        DreamsPayRent x = host();
        row(x, 1, 1, 5, 6);
        for (int sort = 0; sort < 3; sort++) {
            W.due("sheet(1, " + sort + ", -1)", x.sheet(1, sort, -1), BELOW_ZERO);
            W.due("sheet(1, " + sort + ", MIN)", x.sheet(1, sort, MIN), BELOW_ZERO);
            W.due("sheet(2, " + sort + ", -1)", x.sheet(2, sort, -1), BELOW_ZERO);
        }
        items("as it was", x, 1, 1, 5, 6);
        W.due("missing as it was", x.cell(2, 0, 0), MISSING);
    }

    // ---- Promise 27: cell

    private static void cells() {
        W.promise(27, "Item i of a SHEET becomes v");
        for (int sort = 0; sort < 3; sort++) {
            DreamsPayRent x = host();
            x.sheet(2, sort, 4);
            W.due("cell(2, 0, 11)", x.cell(2, 0, 11), 1);
            W.due("cell(2, 3, 13)", x.cell(2, 3, 13), 1);
            items("the first, the last", x, 2, sort, 11, 0, 0, 13);
            W.due("cell(2, 0, 99)", x.cell(2, 0, 99), 1);
            items("again", x, 2, sort, 99, 0, 0, 13);
        }
    }

    private static void cellsOfBits() {
        W.promise(27, "(of bytes, shorts its lowest 8, 16 bits): 1.");
        for (int high : new int[] {1 << 8, 1 << 15, 1 << 16, 1 << 31, -1 << 8, -1 << 16}) {
            for (int sort = 0; sort < 3; sort++) {
                DreamsPayRent x = host();
                x.sheet(2, sort, 1);
                int bits = sort == 0 ? 8 : sort == 1 ? 16 : 32;
                boolean cut = bits < 32 && high << (32 - bits) == 0;
                W.due("cell(2, 0, v)", x.cell(2, 0, high | 42), 1);
                items((high | 42) + " of " + bits + " bits", x, 2, sort, cut ? 42 : NONE);
            }
        }
    }

    private static void cellIsBad() {
        W.promise(27, "BAD: no such SHEET;");
        DreamsPayRent x = host();
        for (int sheet : new int[] {-1, 4, MIN, MAX}) {
            W.due("cell(" + sheet + ", 0, 0)", x.cell(sheet, 0, 0), BAD);
            W.due("cell(" + sheet + ", -1, 0)", x.cell(sheet, -1, 0), BAD);
        }
    }

    private static void cellOfNothing() {
        W.promise(27, "-11;");
        DreamsPayRent x = host();
        for (int sheet = 0; sheet < 4; sheet++) {
            W.due("cell(" + sheet + ", 0, 0)", x.cell(sheet, 0, 0), MISSING);
            W.due("ahead of -12", x.cell(sheet, -1, 0), MISSING);
            W.due("ahead of -12", x.cell(sheet, MAX, 0), MISSING);
        }
    }

    private static void cellOutside() {
        W.promise(27, "-12.");
        DreamsPayRent x = host();
        row(x, 2, 1, 5, 6);
        for (int i : new int[] {-1, 2, 40, MIN, MAX}) {
            W.due("cell(2, " + i + ", 0)", x.cell(2, i, 0), OUTSIDE);
        }
        items("as it was", x, 2, 1, 5, 6);
        x.sheet(2, 1, 0);
        W.due("of a row of none", x.cell(2, 0, 0), OUTSIDE);
        x.sheet(2, 1, 40);
        W.due("of a row of 40", x.cell(2, 40, 0), OUTSIDE);
        W.due("its last", x.cell(2, 39, 0), 1);
    }

    // ---- Promise 28: copy

    private static void copies() {
        W.promise(28, "n numbers of a SHEET, from item i on, come to another one's item j on");
        for (int sort = 0; sort < 3; sort++) {
            DreamsPayRent x = host();
            row(x, 0, sort, 11, 12, 13, 14);
            row(x, 1, sort, 21, 22, 23, 24, 25);
            W.due("copy(0, 1, 1, 2, 2)", x.copy(0, 1, 1, 2, 2), 2);
            items("2 came", x, 1, sort, 21, 22, 12, 13, 25);
            W.due("copy(0, 0, 1, 1, 4)", x.copy(0, 0, 1, 1, 4), 4);
            items("all came, to the end", x, 1, sort, 21, 11, 12, 13, 14);
            items("they stay", x, 0, sort, 11, 12, 13, 14);
            W.due("copy(1, 4, 0, 3, 0)", x.copy(1, 4, 0, 3, 0), 0);
            W.due("copy(1, 5, 0, 4, 0)", x.copy(1, 5, 0, 4, 0), 0);
            items("none came", x, 0, sort, 11, 12, 13, 14);
        }
    }

    private static void asTheyWere() {
        W.promise(28, "(as they were): n.");
        DreamsPayRent x = host();
        row(x, 0, 2, 11, 12, 13, 14, 15);
        W.due("on in the same", x.copy(0, 0, 0, 1, 4), 4);
        items("on in the same", x, 0, 2, 11, 11, 12, 13, 14);
        W.due("ahead in the same", x.copy(0, 2, 0, 0, 3), 3);
        items("ahead in the same", x, 0, 2, 12, 13, 14, 13, 14);
        W.due("onto itself", x.copy(0, 0, 0, 0, 5), 5);
        items("onto itself", x, 0, 2, 12, 13, 14, 13, 14);
        x.copy(0, 0, 0, 2, 3);
        items("by 2", x, 0, 2, 12, 13, 12, 13, 14);
    }

    private static void fortyNumbers() {
        W.promise(28, "(as they were): n.");
        DreamsPayRent x = host();
        x.sheet(0, 1, 40);
        x.sheet(1, 1, 40);
        x.cell(0, 0, 31);
        x.cell(0, 39, 32);
        W.due("copy(0, 0, 1, 0, 40)", x.copy(0, 0, 1, 0, 40), 40);
        W.due("the first", item(x, 1, 1, 0), 31);
        W.due("the last", item(x, 1, 1, 39), 32);
        W.due("copy(0, 0, 1, 0, 41)", x.copy(0, 0, 1, 0, 41), OUTSIDE);
    }

    private static void copyIsBad() {
        W.promise(28, "BAD: no such SHEET;");
        DreamsPayRent x = host();
        x.sheet(0, 1, 2);
        for (int sheet : new int[] {-1, 4, MIN, MAX}) {
            W.due("copy(" + sheet + ", 0, 0, 0, 1)", x.copy(sheet, 0, 0, 0, 1), BAD);
            W.due("copy(0, 0, " + sheet + ", 0, 1)", x.copy(0, 0, sheet, 0, 1), BAD);
            W.due("ahead of -11", x.copy(1, 0, sheet, 0, 1), BAD);
            W.due("ahead of -11", x.copy(sheet, 0, 1, 0, 1), BAD);
            W.due("ahead of -12", x.copy(0, 9, sheet, 9, -1), BAD);
        }
    }

    private static void copyOfNothing() {
        W.promise(28, "-11;");
        DreamsPayRent x = host();
        row(x, 0, 1, 5, 6);
        W.due("from a missing one", x.copy(1, 0, 0, 0, 1), MISSING);
        W.due("to a missing one", x.copy(0, 0, 1, 0, 1), MISSING);
        W.due("from and to one", x.copy(1, 0, 1, 0, 1), MISSING);
        W.due("none, from a missing one", x.copy(1, 0, 0, 0, 0), MISSING);
        W.due("none, to a missing one", x.copy(0, 0, 1, 0, 0), MISSING);
        W.due("ahead of -12", x.copy(1, -1, 0, 9, -1), MISSING);
        W.due("ahead of -12", x.copy(0, -1, 1, 9, -1), MISSING);
        items("as it was", x, 0, 1, 5, 6);
    }

    private static void copyOfUnlikeSorts() {
        W.promise(28, "-13: they are of unlike sorts;");
        for (int one = 0; one < 3; one++) {
            for (int other = 0; other < 3; other++) {
                DreamsPayRent x = host();
                row(x, 0, one, 5, 6);
                row(x, 1, other, 7, 8);
                W.due(one + " to " + other, x.copy(0, 0, 1, 0, 2), one == other ? 2 : OTHER_SORT);
                W.due("none of them", x.copy(0, 0, 1, 0, 0), one == other ? 0 : OTHER_SORT);
                W.due("ahead of -12", x.copy(0, 0, 1, 0, -1), one == other ? OUTSIDE : OTHER_SORT);
                W.due("ahead of -12", x.copy(0, 0, 1, 1, 2), one == other ? OUTSIDE : OTHER_SORT);
                items("then", x, 1, other, one == other ? 5 : 7, one == other ? 6 : 8);
            }
        }
    }

    private static void copyOutside() {
        W.promise(28, "-12 (also with n below 0).");
        DreamsPayRent x = host();
        row(x, 0, 1, 11, 12, 13);
        row(x, 1, 1, 21, 22);
        int[][] rows = { // i, j, n
            {-1, 0, 1}, {0, -1, 1}, {3, 0, 1}, {0, 2, 1}, {2, 0, 2}, {0, 1, 2}, {0, 0, 3}, {4, 0, 0}, {0, 3, 0}, {-1, 0, 0},
            {0, -1, 0}, {0, 0, -1}, {1, 1, -1}, {0, 0, MIN}, {0, 0, MAX}, {MAX, 0, 1}, {0, MAX, 1}, {MIN, 0, 1},
            {0, MIN, 1}, {1, 0, MAX}, {MAX, MAX, MAX}, {MIN, MIN, MIN}, {3, 2, 1}, {2, 1, 2},
        };
        for (int[] row : rows) {
            W.due("copy(0, " + row[0] + ", 1, " + row[1] + ", " + row[2] + ")", x.copy(0, row[0], 1, row[1], row[2]), OUTSIDE);
        }
        items("as it was", x, 0, 1, 11, 12, 13);
        items("as it was", x, 1, 1, 21, 22);
    }

    // ---- Promise 29: dreams

    private static void dreamsThreeByThree() {
        W.promise(29, "DREAMS by a SHEET that is taken for one of a sort: from one on, three by three (as of dream()), n of them"
            + " (0 .. 5): how many came");
        for (int sort = 0; sort < 3; sort++) {
            DreamsPayRent x = new DreamsPayRent();
            row(x, 0, sort, 99, 1, 2, 3, 2, 3, 4, 5, 9, 20, 0, 0, 1, 3, 5, 6, 99);
            W.due("none", x.dreams(0, sort, 1, 0), 0);
            W.due("count(0)", x.count(0), 0);
            W.due("five", x.dreams(0, sort, 1, 5), 5);
            int[][] wants = {{1, 2, 3}, {2, 3, 4}, {5, 9, 20}, {0, 0, 1}, {3, 5, 6}};
            for (int i = 0; i < 5; i++) {
                W.due("KIND of " + i, x.told(i, 8), wants[i][0]);
                W.due("NUMBER of " + i, x.told(i, 3), wants[i][1]);
                W.due("SPACE of " + i, x.told(i, 4), wants[i][2]);
                W.due("PURSE of " + i, x.told(i, 5), 100);
                W.due("OWE of " + i, x.told(i, 6), 0);
                W.due("ROOM of " + i, x.told(i, 7), NONE);
            }
        }
    }

    private static void dreamsFromOneOn() {
        W.promise(29, "from one on, three by three (as of dream()), n of them (0 .. 5)");
        DreamsPayRent x = new DreamsPayRent();
        row(x, 0, 2, 1, 2, 3, 4, 5);
        W.due("from 2", x.dreams(0, 2, 2, 1), 1);
        W.due("KIND", x.told(0, 8), 3);
        W.due("NUMBER", x.told(0, 3), 4);
        W.due("SPACE", x.told(0, 4), 5);
        W.due("from 0", x.dreams(0, 2, 0, 1), 1);
        W.due("KIND", x.told(1, 8), 1);
    }

    private static void othersAreLeftOut() {
        W.promise(29, "(others are left out)");
        DreamsPayRent x = new DreamsPayRent();
        row(x, 0, 2, 6, 0, 1, 0, 10, 1, 0, 0, 21, 2, 3, 4, -1, 0, 1);
        W.due("one of five", x.dreams(0, 2, 0, 5), 1);
        W.due("KIND", x.told(0, 8), 2);
        W.due("count(0)", x.count(0), 1);
        row(x, 0, 2, 0, 0, 0, 0, -1, 1, MAX, 0, 1, 0, 0, MIN, 4, 5, 6);
        W.due("the last of five", x.dreams(0, 2, 0, 5), 1);
        W.due("KIND", x.told(1, 8), 4);
    }

    private static void leftOutByFull() {
        W.promise(29, "(others are left out)");
        DreamsPayRent x = new DreamsPayRent();
        x.dream(0, 0, 1);
        x.dream(0, 0, 1);
        row(x, 0, 0, 1, 0, 1, 2, 0, 1, 3, 0, 1, 4, 0, 1, 5, 0, 1);
        W.due("three of five have room", x.dreams(0, 0, 0, 5), 3);
        W.due("the last that came", x.told(4, 8), 3);
        W.due("none has", x.dreams(0, 0, 0, 5), 0);
        W.due("outside all the same", x.dreams(0, 0, 13, 1), OUTSIDE);
    }

    private static void dreamsAreBad() {
        W.promise(29, "BAD: no such SHEET, sort, n;");
        DreamsPayRent x = new DreamsPayRent();
        row(x, 0, 1, 1, 2, 3);
        for (int sheet : new int[] {-1, 4, MIN, MAX}) {
            W.due("dreams(" + sheet + ", 1, 0, 1)", x.dreams(sheet, 1, 0, 1), BAD);
        }
        for (int sort : new int[] {-1, 3, MIN, MAX}) {
            W.due("dreams(0, " + sort + ", 0, 1)", x.dreams(0, sort, 0, 1), BAD);
            W.due("of a missing SHEET", x.dreams(1, sort, 0, 1), BAD);
        }
        for (int n : new int[] {-1, 6, MIN, MAX}) {
            W.due("dreams(0, 1, 0, " + n + ")", x.dreams(0, 1, 0, n), BAD);
            W.due("of another sort", x.dreams(0, 2, 0, n), BAD);
            W.due("of a missing SHEET", x.dreams(1, 1, 0, n), BAD);
        }
        W.due("count(0)", x.count(0), 0);
    }

    private static void dreamsOfAnotherSort() {
        W.promise(29, "-13;");
        for (int sort = 0; sort < 3; sort++) {
            DreamsPayRent x = new DreamsPayRent();
            row(x, 0, sort, 1, 2, 3);
            for (int other = 0; other < 3; other++) {
                W.due(sort + " taken for " + other, x.dreams(0, other, 0, 1), sort == other ? 1 : OTHER_SORT);
                W.due("none of them", x.dreams(0, other, 0, 0), sort == other ? 0 : OTHER_SORT);
                W.due("ahead of -12", x.dreams(0, other, 99, 1), sort == other ? OUTSIDE : OTHER_SORT);
            }
            W.due("count(0)", x.count(0), 1);
        }
    }

    private static void dreamsOfNothing() {
        W.promise(29, "-11;");
        DreamsPayRent x = new DreamsPayRent();
        for (int sort = 0; sort < 3; sort++) {
            W.due("dreams(1, " + sort + ", 0, 1)", x.dreams(1, sort, 0, 1), MISSING);
            W.due("none of them", x.dreams(1, sort, 0, 0), MISSING);
            W.due("ahead of -12", x.dreams(1, sort, -1, 1), MISSING);
        }
        x.sheet(1, 1, 3);
        x.sheet(1, -1, 3);
        W.due("missing again", x.dreams(1, 1, 0, 1), MISSING);
    }

    private static void dreamsOutside() {
        W.promise(29, "-12: what stood ahead came.");
        for (int size = 3; size < 6; size++) {
            DreamsPayRent x = new DreamsPayRent();
            x.sheet(0, 2, size);
            x.cell(0, 2, 7);
            W.due("1 whole, of " + size, x.dreams(0, 2, 0, 2), OUTSIDE);
            W.due("it came", x.count(0), 1);
            W.due("its SPACE", x.told(0, 4), 7);
        }
        DreamsPayRent x = new DreamsPayRent();
        row(x, 0, 2, 0, 0, 1);
        for (int from : new int[] {-1, -3, 1, 2, 3, MIN, MAX, MAX - 1, MAX - 2}) {
            W.due("from " + from, x.dreams(0, 2, from, 1), OUTSIDE);
            W.due("5 from " + from, x.dreams(0, 2, from, 5), OUTSIDE);
        }
        W.due("none came", x.count(0), 0);
        W.due("none asked, none is outside", x.dreams(0, 2, 99, 0), 0);
        x.sheet(0, 2, 40);
        x.cell(0, 39, 1);
        W.due("the last three of 40", x.dreams(0, 2, 37, 1), 1);
        W.due("one on", x.dreams(0, 2, 38, 1), OUTSIDE);
    }

    // ---- Promise 30: taken

    private static void takenForItsKind() {
        W.promise(30, "A DREAM taken for one of KIND k (0 .. 5), or one under that one (also by others between): its NUMBER.");
        int[] masks = {1, 1 + 2, 1 + 4, 1 + 2 + 8, 1 + 4 + 16, 1 + 32}; // by KIND: what it may be taken for
        DreamsPayRent x = new DreamsPayRent();
        for (int kind = 1; kind < 6; kind++) {
            x.dream(kind, kind + 2, 1);
        }
        DreamsPayRent y = new DreamsPayRent();
        y.dream(0, 9, 1);
        for (int k = 0; k < 6; k++) {
            W.due("a DREAM for " + k, y.taken(0, k), k == 0 ? 9 : OTHER_SORT);
            for (int kind = 1; kind < 6; kind++) {
                W.due(kind + " for " + k, x.taken(kind - 1, k), (masks[kind] >> k & 1) == 1 ? kind + 2 : OTHER_SORT);
            }
        }
        y.set(3, 0, 0);
        W.due("its NUMBER as it is now", y.taken(0, 0), 0);
    }

    private static void takenIsBad() {
        W.promise(30, "BAD: k;");
        DreamsPayRent x = host();
        for (int k : new int[] {-1, 6, MIN, MAX}) {
            W.due("taken(0, " + k + ")", x.taken(0, k), BAD);
            W.due("ahead of -11: taken(1, " + k + ")", x.taken(1, k), BAD);
            W.due("ahead of -11: taken(-1, " + k + ")", x.taken(-1, k), BAD);
        }
    }

    private static void takenOfNothing() {
        W.promise(30, "-11: no such DREAM;");
        DreamsPayRent x = host();
        for (int dream : new int[] {-1, 1, 5, MIN, MAX}) {
            for (int k = 0; k < 6; k++) {
                W.due("taken(" + dream + ", " + k + ")", x.taken(dream, k), MISSING);
            }
        }
        x.image();
        x.dream(1, 3, 1);
        W.due("then there is one", x.taken(1, 1), 3);
        x.back();
        W.due("it is gone", x.taken(1, 1), MISSING);
    }

    private static void takenForAnother() {
        W.promise(30, "-13.");
        DreamsPayRent x = new DreamsPayRent();
        x.dream(3, 1, 1);
        x.dream(1, 2, 1);
        W.due("a NIGHTMARE for a SEA", x.taken(0, 1), 1);
        W.due("a NIGHTMARE for a FLYING", x.taken(0, 2), OTHER_SORT);
        W.due("a NIGHTMARE for a PARTY", x.taken(0, 4), OTHER_SORT);
        W.due("a SEA for a NIGHTMARE", x.taken(1, 3), OTHER_SORT);
        W.due("a SEA for a SIMPLE", x.taken(1, 5), OTHER_SORT);
    }
}
