/** What the document says of texts (Terms 1, promises 8 to 10): a test for each sentence. */
public final class TextWordsTest {
    private static final Words W = new Words("TextWordsTest");
    private static final int BAD = -2, FULL = -4;
    private static final int MIN = Integer.MIN_VALUE, MAX = Integer.MAX_VALUE;
    private static final String TAIL = ";leaks 2;minds 3;";

    public static void main(String[] args) throws Exception {
        W.run(TextWordsTest.class);
    }

    private static void good(String letters) {
        W.due("'" + letters + "'", Check.text(new DreamsPayRent(), letters), 1);
    }

    private static void fault(String letters, int place) {
        W.due("'" + letters + "'", Check.text(new DreamsPayRent(), letters), -100 - place);
    }

    /** An E, ahead of the tail, behind "rents ". */
    private static void goodE(String e) {
        good("rents " + e + TAIL);
    }

    private static void faultE(String e, int place) {
        fault("rents " + e + TAIL, 6 + place);
    }

    /** What the E tells, 0 .. 99, of a DREAM (NUMBER 4, SPACE 6) in ROOM 5 (floor 2, SIZE 10), in NIGHT 0. */
    private static void value(String e, int want) {
        DreamsPayRent x = new DreamsPayRent();
        x.dream(0, 4, 6);
        Check.rule(x, "rents 0; leaks " + e + "; minds 0;");
        W.due("the value of '" + e + "'", x.would(0, 5, 2), want);
    }

    private static String some(String letters, int times) {
        StringBuilder s = new StringBuilder();
        for (int i = 0; i < times; i++) {
            s.append(letters);
        }
        return s.toString();
    }

    // ---- Terms: the tape, tokens

    private static void theTape() {
        W.terms("A TEXT is read from THE TAPE (160 bytes at most).");
        String text = "rents 7" + TAIL;
        good(text + some(" ", 160 - text.length()));
        fault(text + some(" ", 159 - text.length()) + "?", 159);
        DreamsPayRent x = new DreamsPayRent();
        for (int i = 1; i <= 160; i++) {
            W.due("byte " + i, x.feed(';'), i);
        }
        W.due("byte 161", x.feed(';'), FULL);
        W.due("their fault", x.text(), -100);
    }

    private static void aTextOfAllBytes() {
        W.terms("A TEXT is read from THE TAPE (160 bytes at most).");
        DreamsPayRent x = new DreamsPayRent();
        x.dream(0, 0, 1);
        String sum = "rents 1" + some("+1", 67) + "\n " + ";leaks 1;minds 1;";
        W.due("160 bytes that all tell", sum.length(), 160);
        W.due("its number", Check.text(x, sum), 1);
        x.force(1);
        W.due("rents", x.would(0, 0, 1), 68);
        W.due("minds", x.would(0, 0, 3), 1);
    }

    private static void asLongAsCanBe() {
        W.terms("TOKENS, each as long as can be");
        faultE("sizefloor", 0);
        faultE("size floor", 5);
        faultE("notsize", 0);
        faultE("sizeand1", 0);
        faultE("1 2", 2);
        value("12", 12);
        goodE("not1and-2or(3)");
        fault("rentssize" + TAIL, 0);
        good("rents1" + TAIL);
    }

    private static void wordsOfLetters() {
        W.terms("WORDS (a .. z)");
        faultE("1`", 1);
        faultE("1{", 1);
        faultE("1A", 1);
        faultE("1Z", 1);
        faultE("1_", 1);
        faultE("size`", 4);
        faultE("size{", 4);
        faultE("siZe", 0);
        faultE("a", 0);
        faultE("z", 0);
        fault("Rents 1" + TAIL, 0);
    }

    private static void numbersOfDigits() {
        W.terms("NUMBERS (as many digits as stand there, 4 at most)");
        value("0", 0);
        value("9", 9);
        value("99", 99);
        value("100 - 1", 99);
        value("1000 - 901", 99);
        value("9999 - 9900", 99);
        value("0099", 99);
        faultE("10000", 0);
        faultE("00000", 0);
        faultE("1/", 1);
        faultE("1:", 1);
        goodE("9999");
    }

    private static void signs() {
        W.terms("SIGNS ( ) ; + - * < = ;");
        value("(1)+2*3-4", 3);
        value("1<2", 1);
        value("1=2", 0);
        for (char c : "!\"#$%&',./:>?@[\\]^_`{|}~".toCharArray()) {
            faultE("1" + c + "1", 1);
        }
        for (char c : "()+-*<=".toCharArray()) {
            faultE("" + c, c == '(' || c == '-' ? 1 : 0);
        }
    }

    private static void blanks() {
        W.terms("blanks (32, 10) may stand between");
        good(" rents\n1 ; leaks 2\n;\n minds 3 ; \n");
        good("rents 1;leaks 2;minds 3;");
        value("1\n+\n1", 2);
        value("  - \n - 7  ", 7);
        value("(  3 \n)", 3);
        for (int c : new int[] {0, 9, 11, 12, 13, 31, 127, 160, 255}) {
            faultE("1" + (char) c + "+1", 1);
        }
        faultE("1 0", 2);
        faultE("si ze", 0);
    }

    private static void aText() {
        W.terms("TEXT: rents E ; leaks E ; minds E ;");
        good("rents 1; leaks 2; minds 3;");
        fault("", 0);
        fault("leaks 2; minds 3;", 0);
        fault("rents 1; minds 3;", 9);
        fault("rents 1; leaks 2;", 17);
        fault("leaks 2; rents 1; minds 3;", 0);
        fault("rents; leaks 2; minds 3;", 5);
        fault("rents 1; leaks; minds 3;", 14);
        fault("rents 1; leaks 2; minds;", 23);
        fault("rents 1 leaks 2; minds 3;", 8);
        fault("rents 1; leaks 2 minds 3;", 17);
        fault("rents 1; leaks 2; minds 3", 25);
        fault("rents 1;; leaks 2; minds 3;", 8);
        fault("rents 1; leaks 2; minds 3;;", 26);
        fault("rents 1; leaks 2; minds 3; rents 1;", 27);
        fault("rents rents 1; leaks 2; minds 3;", 6);
    }

    // ---- Terms: what an E is

    private static void orsOfAnds() {
        W.terms("E: AND { or AND }.");
        value("0 or 0", 0);
        value("0 or 3", 1);
        value("3 or 0", 1);
        value("3 or 3", 1);
        value("0 or 0 or 0 or 3", 1);
        value("1 and 0 or 1", 1);
        value("1 or 1 and 0", 1);
        value("0 and 1 or 0 and 1", 0);
        faultE("or 1", 0);
        faultE("1 or", 4);
        faultE("1 or or 1", 5);
    }

    private static void andsOfNots() {
        W.terms("AND: NOT { and NOT }.");
        value("3 and 3", 1);
        value("3 and 0", 0);
        value("0 and 3", 0);
        value("0 and 0", 0);
        value("3 and 3 and 3 and 0", 0);
        value("not 0 and not 0", 1);
        value("not 0 and 0", 0);
        faultE("and 1", 0);
        faultE("1 and", 5);
        faultE("1 and or 1", 6);
    }

    private static void nots() {
        W.terms("NOT: not NOT, or SUM, perhaps < or = and a SUM.");
        value("not 0", 1);
        value("not 7", 0);
        value("not not 7", 1);
        value("not 1 < 0", 1);
        value("not 2 = 2", 0);
        value("not 0 + 1", 0);
        value("1 + 1 < 3", 1);
        value("3 < 1 + 3", 1);
        value("2 < 2", 0);
        value("3 < 2", 0);
        value("2 = 2", 1);
        value("2 = 1 + 2", 0);
        faultE("1 < 2 < 3", 6);
        faultE("1 < 2 = 3", 6);
        faultE("1 = 2 < 3", 6);
        faultE("1 = 2 = 3", 6);
        faultE("1 < not 2", 4);
        faultE("1 <", 3);
        faultE("1 = = 2", 4);
        faultE("1 not 2", 2);
    }

    private static void sums() {
        W.terms("SUM: TERM { + or - TERM }.");
        value("1 + 2 + 3", 6);
        value("10 - 3 - 2", 5);
        value("10 - 3 + 2", 9);
        value("10 + 3 - 2 * 3", 7);
        value("2 * 3 + 4 * 5", 26);
        faultE("+ 1", 0);
        faultE("1 +", 3);
        faultE("1 + + 1", 4);
        faultE("1 + not 1", 4);
    }

    private static void terms() {
        W.terms("TERM: ONE { * ONE }.");
        value("2 * 3 * 4", 24);
        value("2 * -3 * -4", 24);
        value("2 * (3 + 4)", 14);
        faultE("* 1", 0);
        faultE("1 *", 3);
        faultE("1 * * 1", 4);
    }

    private static void ones() {
        W.terms("ONE: a NUMBER, a NAME, - ONE, ( E ).");
        value("8", 8);
        value("size", 10);
        value("- -8", 8);
        value("10 - -8", 18);
        value("-8 + 10", 2);
        value("-2 * -3", 6);
        value("(8)", 8);
        value("(1 or 0) + 1", 2);
        value("(2 < 3) * 9", 9);
        value("-(3 - 10)", 7);
        faultE("()", 1);
        faultE("(1", 2);
        faultE("1)", 1);
        faultE("(1;", 2);
        faultE("-", 1);
        faultE("rents", 0);
    }

    private static void namesAndKeys() {
        W.terms("NAMES are size floor night number owes space; rents, leaks, minds, or, and, not are KEYS.");
        for (String name : new String[] {"size", "floor", "night", "number", "owes", "space"}) {
            goodE(name);
            fault(name + " 1" + TAIL, 0);
            faultE("1 " + name, 2);
        }
        for (String key : new String[] {"rents", "leaks", "minds", "or", "and"}) {
            faultE(key, 0);
            faultE("(" + key + ")", 1);
        }
        faultE("not", 3);
    }

    private static void anInt() {
        W.terms("An E is an int (32 bits, wrapping)");
        String half = "256*256*256*128"; // 1 more than the most, so the least
        value(half + " < 0", 1);
        value(half + " - 1 < 0", 0);
        value("-(" + half + ") < 0", 1);
        value("-(" + half + ") = " + half, 1);
        value("256*256*256*256 + 7", 7);
        value("256*256*256*64 + 256*256*256*64 < 0", 1);
        value("256*256*256*64 + 256*256*256*64 - 1 < 0", 0);
        value("0 - 256*256*256*64 - 256*256*256*64 - 1 < 0", 0);
        value("9999*9999*9999 < 0", 9999 * 9999 * 9999 < 0 ? 1 : 0);
        value(half + " < 1", 1);
        value("1 < " + half, 0);
    }

    private static void truth() {
        W.terms("of or, and, not, <, = 1 or 0 (what is not 0 is true)");
        value("5 or 6", 1);
        value("5 and 6", 1);
        value("-5 or 0", 1);
        value("-5 and -6", 1);
        value("not -5", 0);
        value("not 5 + 90", 0);
        value("(not 0) + 90", 91);
        value("(3 < 4) + 90", 91);
        value("(4 < 4) + 90", 90);
        value("(4 = 4) + 90", 91);
        value("(4 = 5) + 90", 90);
        value("(0 or 0) + 90", 90);
        value("(4 or 0) + 90", 91);
        value("(4 and 0) + 90", 90);
        value("(4 and 5) + 90", 91);
        value("(not 4) + 90", 90);
        value("(256*256*256*128 and 1) + 90", 91);
    }

    // ---- Terms: faults

    private static void faultOfAToken() {
        W.terms("FAULT: the place of the first byte of the first TOKEN that can't stand there");
        faultE("1 size floor", 2);
        faultE("1 1234", 2);
        faultE("1 2 ?", 2);
        faultE("1 2 12345", 2);
        faultE("size +  * 3", 8);
        faultE("1 ( 2 )", 2);
        fault("  rents  1  leaks 2; minds 3;", 12);
        fault("rents 1; leaks 2; minds 3; size", 27);
    }

    private static void faultOfTheEnd() {
        W.terms("(the text's size, if it ends too early)");
        fault("", 0);
        fault(" ", 1);
        fault("\n\n\n", 3);
        fault("rents", 5);
        fault("rents ", 6);
        fault("rents 1 + ", 10);
        fault("rents (1", 8);
        fault("rents not", 9);
        fault("rents -", 7);
        fault("rents 1;", 8);
        fault("rents 1; leaks 2; minds 3", 25);
        fault("rents 1; leaks 2; minds 3  ", 27);
        fault("rents 1" + some(" ", 153), 160);
        fault("rents 12" + some("+1", 76), 160);
        fault("rents 1" + some("+1", 74) + "+size", 160);
    }

    /** What stood on THE TAPE before does not tell any more. */
    private static void faultOfTheEndBehindALongerOne() {
        W.terms("(the text's size, if it ends too early)");
        DreamsPayRent x = new DreamsPayRent();
        W.due("a longer NUMBER", Check.text(x, "rents 1234567"), -106);
        W.due("its first 4 digits", Check.text(x, "rents 1234"), -110);
        W.due("a longer WORD", Check.text(x, "rents sizes"), -106);
        W.due("its first 4 letters", Check.text(x, "rents size"), -110);
        W.due("a TEXT", Check.text(x, "rents 1" + TAIL), 1);
        W.due("all but its last byte", Check.text(x, "rents 1" + TAIL.substring(0, TAIL.length() - 1)), -123);
    }

    private static void faultOfAByte() {
        W.terms("also of a byte that begins none");
        fault("?", 0);
        fault(" ?", 1);
        faultE("1?", 1);
        faultE("?", 0);
        faultE("1 ? 2", 2);
        fault("rents 1" + TAIL + "?", 24);
        fault("rents 1" + TAIL + (char) 255, 24);
        fault((char) 0 + "rents 1" + TAIL, 0);
    }

    private static void faultOfAWord() {
        W.terms("a WORD that is neither KEY nor NAME");
        faultE("siz", 0);
        faultE("sizes", 0);
        faultE("1 + numbe", 4);
        faultE("1 orr 2", 2);
        fault("rent 1" + TAIL, 0);
        fault("rents 1;leak 2;minds 3;", 8);
        fault("rents 1" + TAIL + "x", 24);
        faultE(some("a", 100), 0);
    }

    private static void faultOfANumber() {
        W.terms("a NUMBER that is too long");
        faultE("12345", 0);
        faultE("1 + 12345", 4);
        faultE("1 + 99999999999999999999", 4);
        faultE("00001", 0);
        fault("rents 1" + TAIL + "12345", 24);
        faultE(some("1", 130), 0);
    }

    private static void faultOfWhatIsOpen() {
        W.terms("a ( , a not, a - ahead of a ONE while 5 of these are open");
        goodE("(((((1)))))");
        faultE("((((((1))))))", 5);
        goodE("-----1");
        faultE("------1", 5);
        goodE("not not not not not 1");
        faultE("not not not not not not 1", 20);
        goodE("not (-(-1))");
        faultE("not (-(-(1)))", 8);
        faultE("not (-(--1))", 8);
        goodE("not (not (not 1))");
        faultE("not (not (not (1)))", 14);
        faultE("(((((not 1)))))", 5);
        faultE("(((((-1)))))", 5);
        goodE("(((((1 - 1)))))");
        faultE("(((((1 - -1)))))", 9);
        goodE("((((1 - -1))))");
        good("rents 1;leaks (((((1)))));minds (((((1)))));");
        fault("rents 1;leaks 2;minds ((((((1))))));", 27);
    }

    private static void openTillTheirEnds() {
        W.terms("(a ( till its ) , not and - till what they belong to ends)");
        goodE("(((((1))))) + (((((1)))))");
        goodE("((((1)))+((((1)))))");
        faultE("((((1))) + (((((1))))))", 15);
        goodE("-----1 - -----1 * -----1");
        goodE("-(1) * (((((1)))))");
        goodE("-((((1)))) + (((((1)))))");
        faultE("-(((((1)))))", 5);
        goodE("not 1 and (((((1)))))");
        goodE("not 1 or not not not not not 1");
        faultE("not 1 + (((((1)))))", 12);
        faultE("not 1 < (((((1)))))", 12);
        goodE("not 1 < ((((1)))) and (((((1)))))");
        faultE("not 1 * -----1", 12);
        goodE("(not 1) + (((((1)))))");
        faultE("not not not not - 1 < - - 1", 24);
        goodE("not not not not - 1 < - 1");
    }

    // ---- Terms: the texts

    private static void sixTexts() {
        W.terms("There are 6 TEXTS at most, TEXT 0 with them.");
        DreamsPayRent x = new DreamsPayRent();
        W.due("count(4)", x.count(4), 1);
        for (int i = 1; i <= 5; i++) {
            W.due("text " + i, Check.text(x, "rents " + i + TAIL), i);
        }
        W.due("one more", Check.text(x, "rents 6" + TAIL), FULL);
        W.due("count(4)", x.count(4), 6);
        x.dream(0, 0, 1);
        for (int i = 5; i >= 1; i--) {
            x.force(i);
            W.due("TEXT " + i, x.would(0, 0, 1), i);
        }
    }

    /** What the name tells of the second of two DREAMS, in ROOM 6, and what it tells then. */
    private static void name(String name, int want, int what, int of, int v, int then) {
        DreamsPayRent x = new DreamsPayRent();
        x.dream(0, 8, 19);
        x.dream(0, 4, 6);
        x.set(2, 6, 33);
        x.set(1, 0, 21);
        x.set(6, 1, 60);
        Check.rule(x, "rents " + name + "; leaks " + name + "; minds " + name + " - 50;");
        W.due("rents " + name, x.would(1, 6, 1), want);
        W.due("leaks " + name, x.would(1, 6, 2), want);
        x.set(what, of, v);
        W.due("rents " + name + " then", x.would(1, 6, 1), Math.min(99, then));
        W.due("leaks " + name + " then", x.would(1, 6, 2), Math.min(99, then));
        W.due("minds " + name + " - 50", x.would(1, 6, 3), Math.max(0, Math.min(9, then - 50)));
    }

    private static void theSize() {
        W.terms("Of a DREAM in a ROOM: size: SIZE;");
        name("size", 33, 2, 6, 40, 40);
        name("size", 33, 2, 5, 40, 33);
        name("size", 33, 2, 6, 1, 1);
    }

    private static void theFloor() {
        W.terms("floor: its FLOOR;");
        name("floor", 3, 2, 6, 1, 3);
        DreamsPayRent x = new DreamsPayRent();
        x.dream(0, 0, 1);
        Check.rule(x, "rents floor; leaks floor; minds floor;");
        for (int room = 0; room < 8; room++) {
            W.due("of ROOM " + room, x.would(0, room, 1), room / 2);
            W.due("of ROOM " + room, x.would(0, room, 2), room / 2);
            W.due("of ROOM " + room, x.would(0, room, 3), room / 2);
        }
    }

    private static void theNight() {
        W.terms("night: THE NIGHT;");
        name("night", 21, 1, 0, 0, 0);
        name("night", 21, 1, 0, 55, 55);
        name("night", 21, 1, 0, 999, 999);
    }

    private static void theNumber() {
        W.terms("number: NUMBER;");
        name("number", 4, 3, 1, 9, 9);
        name("number", 4, 3, 1, 0, 0);
        name("number", 4, 3, 0, 9, 4);
    }

    private static void whatItOwes() {
        W.terms("owes: what it OWES;");
        name("owes", 60, 6, 1, 0, 0);
        name("owes", 60, 6, 1, 9999, 9999);
        name("owes", 60, 6, 0, 5, 60);
    }

    private static void theSpace() {
        W.terms("space: SPACE.");
        name("space", 6, 4, 1, 20, 20);
        name("space", 6, 4, 1, 1, 1);
        name("space", 6, 4, 0, 3, 6);
    }

    /** What the part of THE RULE tells, by the values of its E, for the bounds 0 .. most. */
    private static void bounds(int what, int most) {
        int[][] rows = {{0, 0}, {1, 1}, {most - 1, most - 1}, {most, most}, {most + 1, most}, {9999, most}};
        for (int[] row : rows) {
            DreamsPayRent x = new DreamsPayRent();
            x.dream(0, 0, 1);
            String e = what == 1 ? "rents " + row[0] + ";leaks 5;minds 5;"
                : what == 2 ? "rents 5;leaks " + row[0] + ";minds 5;" : "rents 5;leaks 5;minds " + row[0] + ";";
            Check.rule(x, e);
            W.due(e, x.would(0, 0, what), row[1]);
            W.due("another part", x.would(0, 0, what % 3 + 1), 5);
            Check.rule(x, e.replace(" ", " 0-1-"));
            W.due("below 0", x.would(0, 0, what), 0);
            Check.rule(x, e.replace(" ", " 256*256*256*128 + 0*"));
            W.due("far below 0", x.would(0, 0, what), 0);
            Check.rule(x, e.replace(" ", " 256*256*256*128 - 1 + 0*"));
            W.due("far above", x.would(0, 0, what), most);
        }
    }

    private static void rents() {
        W.terms("rents: what it should pay (0 .. 99, else the bound).");
        bounds(1, 99);
    }

    private static void leaks() {
        W.terms("leaks: how much leaks out of it through each WALL (0 .. 99, else the bound).");
        bounds(2, 99);
    }

    private static void minds() {
        W.terms("minds: how bad each 1 is that leaks in there (0 .. 9, else the bound).");
        bounds(3, 9);
    }

    private static void textZero() {
        W.terms("TEXT 0, at first THE RULE, is: rents size + floor ; leaks space ; minds 0 ;");
        DreamsPayRent x = new DreamsPayRent();
        x.dream(0, 9, 13);
        x.set(6, 0, 77);
        x.set(1, 0, 500);
        W.due("THE RULE", x.count(6), 0);
        for (int room = 0; room < 8; room++) {
            x.set(2, room, 20 + room);
            W.due("rents in " + room, x.would(0, room, 1), 20 + room + room / 2);
            W.due("leaks in " + room, x.would(0, room, 2), 13);
            W.due("minds in " + room, x.would(0, room, 3), 0);
        }
    }

    // ---- Promise 8: feed

    private static void feedCounts() {
        W.promise(8, "A byte (0 .. 255) comes behind THE TAPE: how many it has.");
        DreamsPayRent x = new DreamsPayRent();
        W.due("feed(0)", x.feed(0), 1);
        W.due("feed(255)", x.feed(255), 2);
        W.due("feed(128)", x.feed(128), 3);
        W.due("a byte of 0 is no blank", x.text(), -100);
        W.due("from the front again", x.feed(32), 1);
        W.due("byte 255 is none of a TEXT's", x.feed(255), 2);
        W.due("its place", x.text(), -101);
    }

    private static void feedIsBad() {
        W.promise(8, "BAD;");
        DreamsPayRent x = new DreamsPayRent();
        for (int letter : new int[] {-1, 256, MIN, MAX, 256 + 32}) {
            W.due("feed(" + letter + ")", x.feed(letter), BAD);
        }
        W.due("count(5)", x.count(5), 0);
    }

    private static void feedIsFull() {
        W.promise(8, "FULL.");
        DreamsPayRent x = new DreamsPayRent();
        for (int i = 1; i <= 160; i++) {
            W.due("byte " + i, x.feed(i == 160 ? '?' : ' '), i);
        }
        W.due("byte 161", x.feed('?'), FULL);
        W.due("BAD ahead of FULL", x.feed(256), BAD);
        W.due("BAD ahead of FULL", x.feed(-1), BAD);
        W.due("count(5)", x.count(5), 160);
        W.due("THE TAPE as it was", x.text(), -259);
        W.due("it has room again", x.feed(' '), 1);
    }

    // ---- Promise 9: text

    private static void textIsANumber() {
        W.promise(9, "is a TEXT: its number;");
        DreamsPayRent x = new DreamsPayRent();
        W.due("the first", Check.text(x, "rents 11" + TAIL), 1);
        W.due("a like one", Check.text(x, "rents 11" + TAIL), 2);
        W.due("a fault takes none", Check.text(x, "rents"), -105);
        W.due("the next", Check.text(x, "rents 13;leaks 14;minds 5;"), 3);
        W.due("THE RULE as it was", x.count(6), 0);
        x.dream(0, 0, 1);
        x.force(3);
        W.due("rents", x.would(0, 0, 1), 13);
        W.due("leaks", x.would(0, 0, 2), 14);
        W.due("minds", x.would(0, 0, 3), 5);
    }

    private static void theTapeIsEmptyThen() {
        W.promise(9, "THE TAPE, which is empty then (by a FAULT, too)");
        DreamsPayRent x = new DreamsPayRent();
        W.due("text", Check.text(x, "rents 11" + TAIL), 1);
        W.due("count(5) by a TEXT", x.count(5), 0);
        W.due("fault", Check.text(x, "rents 11"), -108);
        W.due("count(5) by a FAULT", x.count(5), 0);
        W.due("nothing is left", x.text(), -100);
        W.due("a TEXT from the front", Check.text(x, "rents 11" + TAIL), 2);
    }

    private static void faultsAsNumbers() {
        W.promise(9, "-100 less the place of its FAULT.");
        DreamsPayRent x = new DreamsPayRent();
        W.due("place 0", Check.text(x, "?"), -100);
        W.due("place 1", Check.text(x, " ?"), -101);
        W.due("place 159", Check.text(x, some(" ", 159) + "?"), -259);
        W.due("place 160", Check.text(x, some(" ", 160)), -260);
    }

    private static void textIsFull() {
        W.promise(9, "FULL (ahead of all): no TEXT more has room (THE TAPE stays).");
        DreamsPayRent x = new DreamsPayRent();
        for (int i = 1; i <= 5; i++) {
            Check.text(x, "rents " + i + TAIL);
        }
        W.due("with nothing", x.text(), FULL);
        W.due("with a fault", Check.text(x, "?"), FULL);
        W.due("THE TAPE", x.count(5), 1);
        W.due("on it goes", x.feed('?'), 2);
        W.due("again", x.text(), FULL);
        W.due("THE TAPE", x.count(5), 2);
        W.due("TEXTS", x.count(4), 6);
    }

    private static void textIsFullByAGoodOne() {
        W.promise(9, "FULL (ahead of all): no TEXT more has room (THE TAPE stays).");
        DreamsPayRent x = new DreamsPayRent();
        for (int i = 1; i <= 5; i++) {
            Check.text(x, "rents " + i + TAIL);
        }
        W.due("with a TEXT", Check.text(x, "rents 6" + TAIL), FULL);
        W.due("THE TAPE", x.count(5), 24);
        x.dream(0, 0, 1);
        x.force(5);
        W.due("TEXT 5 as it was", x.would(0, 0, 1), 5);
    }

    // ---- Promise 10: force

    private static void forceRules() {
        W.promise(10, "A TEXT is THE RULE: which was.");
        DreamsPayRent x = new DreamsPayRent();
        x.dream(0, 0, 1);
        Check.text(x, "rents 31" + TAIL);
        Check.text(x, "rents 32" + TAIL);
        W.due("force(0)", x.force(0), 0);
        W.due("force(2)", x.force(2), 0);
        W.due("rents", x.would(0, 0, 1), 32);
        W.due("force(1)", x.force(1), 2);
        W.due("rents", x.would(0, 0, 1), 31);
        W.due("force(1)", x.force(1), 1);
        W.due("force(0)", x.force(0), 1);
        W.due("rents", x.would(0, 0, 1), 10);
        W.due("count(6)", x.count(6), 0);
    }

    private static void forceIsBad() {
        W.promise(10, "BAD.");
        DreamsPayRent x = new DreamsPayRent();
        W.due("force(1), no such one yet", x.force(1), BAD);
        Check.text(x, "rents 31" + TAIL);
        W.due("force(1)", x.force(1), 0);
        for (int text : new int[] {-1, 2, 5, 6, MIN, MAX}) {
            W.due("force(" + text + ")", x.force(text), BAD);
        }
        W.due("THE RULE", x.count(6), 1);
        for (int i = 2; i <= 5; i++) {
            Check.text(x, "rents 31" + TAIL);
        }
        W.due("force(5)", x.force(5), 1);
        W.due("force(6)", x.force(6), BAD);
    }
}
