/** Promises 8 to 10: feed, text, force; what a text reads as, and where its fault is. */
public final class TextsTest {
    private static final Check CHECK = new Check("TextsTest");

    public static void main(String[] args) {
        feedCounts();
        textNumbers();
        textIsFull();
        theTapeIsEmptyThen();
        faultsOfTheWhole();
        faultsOfAnE();
        faultsOfTokens();
        faultsOfWhatIsOpen();
        values();
        wrapping();
        aLongText();
        forceAnswersWhichWas();
        CHECK.end();
    }

    private static void feedCounts() {
        DreamsPayRent x = new DreamsPayRent();
        CHECK.due("8 feed(-1)", x.feed(-1), -2);
        CHECK.due("8 feed(256)", x.feed(256), -2);
        CHECK.due("8 feed(0)", x.feed(0), 1);
        CHECK.due("8 feed(255)", x.feed(255), 2);
        for (int i = 3; i <= 160; i++) {
            CHECK.due("8 feed(32)", x.feed(32), i);
        }
        CHECK.due("8 FULL", x.feed(32), -4);
        CHECK.due("8 BAD ahead of FULL", x.feed(256), -2);
        CHECK.due("8 count(5)", x.count(5), 160);
    }

    private static void textNumbers() {
        DreamsPayRent x = new DreamsPayRent();
        CHECK.due("9 nothing", x.text(), -100);
        CHECK.due("9 the first", Check.text(x, "rents 1;leaks 2;minds 3;"), 1);
        CHECK.due("9 a fault", Check.text(x, "rents 1;leaks 2;minds 3"), -123);
        CHECK.due("9 the next", Check.text(x, "\n rents\n1 ;leaks2;minds3; \n"), 2);
        CHECK.due("9 TEXTS", x.count(4), 3);
        CHECK.due("9 THE RULE is as it was", x.count(6), 0);
    }

    private static void textIsFull() {
        DreamsPayRent x = new DreamsPayRent();
        for (int i = 1; i <= 5; i++) {
            CHECK.due("9 text", Check.text(x, "rents 1;leaks 2;minds 3;"), i);
        }
        CHECK.due("9 FULL, by a good text", Check.text(x, "rents 1;leaks 2;minds 3;"), -4);
        CHECK.due("9 THE TAPE stays", x.count(5), 24);
        CHECK.due("9 FULL, by a fault", Check.text(x, "?"), -4);
        CHECK.due("9 THE TAPE stays", x.count(5), 25);
        CHECK.due("9 TEXTS", x.count(4), 6);
    }

    private static void theTapeIsEmptyThen() {
        DreamsPayRent x = new DreamsPayRent();
        Check.text(x, "rents 1;leaks 2;minds 3;");
        CHECK.due("9 empty by a text", x.count(5), 0);
        Check.text(x, "rents 1;leaks ?;minds 3;");
        CHECK.due("9 empty by a fault", x.count(5), 0);
        CHECK.due("9 a fault's text is none", x.count(4), 2);
        CHECK.due("9 from the front again", x.feed(65), 1);
    }

    private static void fault(String letters, int place) {
        CHECK.due("9 fault of '" + letters + "'", Check.text(new DreamsPayRent(), letters), -100 - place);
    }

    private static void good(String letters) {
        CHECK.due("9 text '" + letters + "'", Check.text(new DreamsPayRent(), letters), 1);
    }

    private static void faultsOfTheWhole() {
        fault("   ", 3);
        fault("rents", 5);
        fault("rents 1", 7);
        fault("rents 1;", 8);
        fault("rents 1; \n ", 11);
        fault("rents 1; leaks 1; minds 1 ", 26);
        fault("rents 1; rents 1; minds 1;", 9);
        fault("leaks 1; leaks 1; minds 1;", 0);
        fault("rents 1; minds 1; minds 1;", 9);
        fault("rents 1; leaks 1; rents 1;", 18);
        fault("rents 1; leaks 1; minds 1; ;", 27);
        fault("rents 1; leaks 1; minds 1; rents 1;", 27);
        fault("rents ; leaks 1; minds 1;", 6);
        fault("rents 1 leaks 1; minds 1;", 8);
        fault("size", 0);
        fault("; rents 1; leaks 1; minds 1;", 0);
        good("rents1;leaks1;minds1;");
        good("rents\n1 ; leaks 1;\n\nminds 1;\n");
    }

    private static void faultsOfAnE() {
        int at = "rents ".length();
        String tail = "; leaks 1; minds 1;";
        fault("rents size size" + tail, at + 5);
        fault("rents size +" + tail, at + 6);
        fault("rents size + * floor" + tail, at + 7);
        fault("rents * floor" + tail, at);
        fault("rents size < floor < night" + tail, at + 13);
        fault("rents size = floor < night" + tail, at + 13);
        fault("rents size < floor = night" + tail, at + 13);
        fault("rents size < not floor" + tail, at + 7);
        fault("rents 1 + not floor" + tail, at + 4);
        fault("rents - not floor" + tail, at + 2);
        fault("rents or 1" + tail, at);
        fault("rents 1 or and 1" + tail, at + 5);
        fault("rents 1 and" + tail, at + 5);
        fault("rents not" + tail, at + 3);
        fault("rents 1 not 1" + tail, at + 2);
        fault("rents ()" + tail, at + 1);
        fault("rents (1" + tail, at + 2);
        fault("rents 1)" + tail, at + 1);
        fault("rents (1 2)" + tail, at + 3);
        fault("rents (1;)" + tail, at + 2);
        fault("rents leaks" + tail, at);
        fault("rents 1 + minds" + tail, at + 4);
        fault("rents 1size" + tail, at + 1);
        fault("rents (size < 3", 15);
        good("rents (size < floor) < night" + tail);
        good("rents not size < floor and not not night or 1" + tail);
        good("rents size - - floor * - 3" + tail);
    }

    private static void faultsOfTokens() {
        String tail = "; leaks 1; minds 1;";
        fault("rents 9999 + 10000" + tail, 13);
        fault("rents 00000" + tail, 6);
        fault("rents 1 12345" + tail, 8);
        fault("rents sizes" + tail, 6);
        fault("rents siz" + tail, 6);
        fault("rents sizefloor" + tail, 6);
        fault("rents Size" + tail, 6);
        fault("rents siZe" + tail, 6);
        fault("rents 1 > 2" + tail, 8);
        fault("rents 1 / 2" + tail, 8);
        fault("rents\t1" + tail, 5);
        fault("rents 1\r" + tail, 7);
        fault("rents 1" + (char) 0 + tail, 7);
        fault("rents 1" + (char) 233 + tail, 7);
        fault("rents 1;?", 8);
        fault("rents 1 2 ?", 8);
        fault("rents 1; leaks 1; minds 1;z", 26);
        fault("rents 1; leaks 1; minds 1;12345", 26);
        fault("?", 0);
        fault("rent", 0);
        fault("rentss 1", 0);
        fault("rents{", 5);
        fault("rents`", 5);
        fault("rents:", 5);
        good("rents 9999 + 0001" + tail);
    }

    private static void faultsOfWhatIsOpen() {
        String tail = "; leaks 1; minds 1;";
        good("rents (((((1)))))" + tail);
        fault("rents ((((((1))))))" + tail, 11);
        good("rents -----1" + tail);
        fault("rents ------1" + tail, 11);
        good("rents not not not not not 1" + tail);
        fault("rents not not not not not not 1" + tail, 26);
        good("rents not (-(-1))" + tail);
        fault("rents not (-(-(-1)))" + tail, 14);
        fault("rents not (-(-(not 1)))" + tail, 14);
        fault("rents not (-(-((1))))" + tail, 14);
        // what has ended is no longer open
        good("rents (((((1))))) + (((((1))))) * -----1 - -----1" + tail);
        good("rents not not not not not 1 and not not not not not 1" + tail);
        good("rents not (1 + (1) + (1) + (1) + (((1))))" + tail);
        fault("rents not (1 + (1) + (1) + (1) + ((((1)))))" + tail, 36);
        // a - between two is not open, one ahead of a ONE is
        good("rents ((((( 1 - 1 )))))" + tail);
        fault("rents ((((( 1 - - 1 )))))" + tail, 16);
        fault("rents ((((( not 1 )))))" + tail, 12);
        // the not is open while its comparison is
        fault("rents not 1 < (((((1)))))" + tail, 18);
        good("rents not 1 < ((((1)))) and (((((1)))))" + tail);
    }

    /** What each text tells as leaks, of a DREAM (NUMBER 4, SPACE 6) in room 5 (floor 2, size 10). */
    private static int value(String e) {
        DreamsPayRent x = new DreamsPayRent();
        x.dream(0, 4, 6);
        Check.rule(x, "rents 0; leaks " + e + "; minds 0;");
        return x.would(0, 5, 2);
    }

    private static void values() {
        String[] es = {
            "1+2*3", "(1+2)*3", "10-2-3", "10-(2-3)", "2*3-4*5+30", "-2*-3", "- -7", "7--3", "5-2*2",
            "1<2", "2<1", "2<2", "2=2", "2=3", "-1<0", "0<-1", "1+1<3", "3<1+1", "1+1=2",
            "not 0", "not 5", "not not 5", "not 1<0", "not 2=2", "not 0+7", "not -0",
            "0 or 0", "0 or 5", "5 or 0", "5 and 6", "5 and 0", "0 and 5", "7 or 1 and 0", "1 and 0 or 6",
            "not 0 or 1", "not 1 and 0", "not (1 and 0)", "0 or 0 or 3", "3 and 4 and 0",
            "7", "(7)", "1 or 1 + 1", "(1 or 1) + 1", "5 - (2 < 3)", "(size = 10) * 4 + (floor = 2) * 2 + (night = 0)",
            "size * number + space - floor", "not size", "owes or number < 4", "1 < 2 and 2 < 3", "1 = 1 or 0 < 0",
            "not 0", "0012", "-1 or 0", "-1 and -1", "0 - 1 < 0 - 0",
        };
        int[] wants = {
            7, 9, 5, 11, 16, 6, 7, 10, 1,
            1, 0, 0, 1, 0, 1, 0, 1, 0, 1,
            1, 0, 1, 1, 0, 0, 1,
            0, 1, 1, 1, 0, 0, 1, 1,
            1, 0, 1, 1, 0,
            7, 7, 1, 2, 4, 7,
            44, 0, 0, 1, 1,
            1, 12, 1, 1, 1,
        };
        CHECK.due("as many", es.length, wants.length);
        for (int i = 0; i < es.length; i++) {
            CHECK.due("9 value of " + es[i], value(es[i]), wants[i]);
        }
    }

    private static void wrapping() {
        // 65536 * 65536 is 0, 65536 * 32768 below 0 in 32 bits
        CHECK.due("9 wraps to 0", value("256*256*256*256+5"), 5);
        CHECK.due("9 wraps below 0", value("256*256*256*128<0"), 1);
        CHECK.due("9 wraps by +", value("256*256*256*64+256*256*256*64<0"), 1);
        CHECK.due("9 wraps by -", value("0-256*256*256*128-1<0"), 0);
        CHECK.due("9 the least's - is itself", value("-(256*256*256*128)<0"), 1);
        CHECK.due("9 < does not take away", value("256*256*256*128<1"), 1);
    }

    private static void aLongText() {
        DreamsPayRent x = new DreamsPayRent();
        x.dream(0, 4, 6);
        StringBuilder text = new StringBuilder("rents 1");
        String tail = ";leaks 2;minds 3;";
        while (text.length() + tail.length() < 159) {
            text.append("+1");
        }
        text.append(tail);
        while (text.length() < 160) {
            text.append(' ');
        }
        CHECK.due("9 160 bytes", Check.text(x, text.toString()), 1);
        x.force(1);
        CHECK.due("9 its rents", x.would(0, 0, 1), 69);
        CHECK.due("9 its leaks", x.would(0, 0, 2), 2);
        CHECK.due("9 its minds", x.would(0, 0, 3), 3);
        CHECK.due("9 all that can wait", value("1 or 1 and 1<1+1*(1 or 1 and 1<1+1*(1 or 1 and 1<1+1*(1 or 1 and 1<1+1"
            + "*(1 or 1 and 1<1+1*(0 or 1 and 1<1+7*8)))))"), 1);
        CHECK.due("9 all that can wait is kept",
            value("0 or 1 and 9=8+1*(0 or 1 and 9=8+1*(0 or 1 and 9=8+1*(0 or 1 and 9=8+1*(0 or 1 and 9=8+1"
                + "*(0 or 1 and 9=8+1*1)))))"), 1);
    }

    private static void forceAnswersWhichWas() {
        DreamsPayRent x = new DreamsPayRent();
        x.dream(0, 0, 5);
        Check.text(x, "rents 11; leaks 12; minds 3;");
        Check.text(x, "rents 21; leaks 22; minds 4;");
        CHECK.due("10 force(2)", x.force(2), 0);
        CHECK.due("10 rents", x.would(0, 0, 1), 21);
        CHECK.due("10 force(1)", x.force(1), 2);
        CHECK.due("10 rents", x.would(0, 0, 1), 11);
        CHECK.due("10 leaks", x.would(0, 0, 2), 12);
        CHECK.due("10 minds", x.would(0, 0, 3), 3);
        CHECK.due("10 force(3)", x.force(3), -2);
        CHECK.due("10 force(-1)", x.force(-1), -2);
        CHECK.due("10 THE RULE", x.count(6), 1);
        CHECK.due("10 force(1)", x.force(1), 1);
        CHECK.due("10 force(0)", x.force(0), 1);
        CHECK.due("10 TEXT 0", x.would(0, 7, 1), 13);
    }
}
