/** Counts the answers that are not as due; ends the test with 1 if there was one. */
final class Check {
    private final String test;
    private int right;
    private int wrong;

    Check(String test) {
        this.test = test;
    }

    void due(String call, long got, long want) {
        if (got == want) {
            right++;
        } else {
            wrong++;
            System.out.println(test + ": " + call + " answered " + got + ", due is " + want);
        }
    }

    void end() {
        System.out.println(test + ": " + right + " answers as due, " + wrong + " not");
        if (wrong != 0 || right == 0) {
            System.exit(1);
        }
    }

    /** Feeds the letters and asks for the text. */
    static int text(DreamsPayRent x, String letters) {
        for (int i = 0; i < letters.length(); i++) {
            x.feed(letters.charAt(i));
        }
        return x.text();
    }

    /** Makes the letters a text and the rule. */
    static void rule(DreamsPayRent x, String letters) {
        int text = text(x, letters);
        if (text < 0) {
            throw new IllegalStateException(letters + " answered " + text);
        }
        x.force(text);
    }

    /** A dream that comes into a room at once. */
    static int lodger(DreamsPayRent x, int kind, int number, int space, int room) {
        int dream = x.dream(kind, number, space);
        if (x.let(dream, room) != DreamsPayRent.NONE) {
            throw new IllegalStateException("dream " + dream + " did not come into room " + room);
        }
        return dream;
    }

    /** The sheet becomes a row of ints. */
    static void row(DreamsPayRent x, int sheet, int... numbers) {
        x.sheet(sheet, 2, numbers.length);
        for (int i = 0; i < numbers.length; i++) {
            x.cell(sheet, i, numbers[i]);
        }
    }
}
