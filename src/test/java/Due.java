/** Compares answers with those that are due, and counts the wrong ones. */
final class Due {
    static final int INVALID = NameRolls.INVALID_ARGUMENT;
    static final int NOT_POSSIBLE = NameRolls.NOT_POSSIBLE;
    static final int LIMIT = NameRolls.LIMIT_REACHED;
    static final int NOT_FOUND = NameRolls.NOT_FOUND;
    static final int STALE = NameRolls.STALE;

    private final String test;
    private int wrong;
    private int rows;

    Due(String test) {
        this.test = test;
    }

    void is(String call, long got, long due) {
        rows++;
        if (got != due) {
            wrong++;
            System.out.println(test + ": " + call + " answered " + got + ", due is " + due);
        }
    }

    /** All that two rolls tell of what there is; some 265 calls of each. */
    void same(String what, NameRolls x, NameRolls y) {
        for (int i = 0; i <= 10; i++) {
            is(what + ": count(" + i + ")", x.count(i), y.count(i));
        }
        for (int number = 0; number < 40; number++) {
            for (int i = 0; i < 4; i++) {
                String call = what + ": numberOf(" + number + ", " + i + ")";
                is(call, x.numberOf(number, i), y.numberOf(number, i));
            }
        }
        for (int i = 0; i < 18; i++) {
            String call = what + ": cellOf(" + i / 6 + ", " + i % 6 + ")";
            is(call, x.cellOf(i / 6, i % 6), y.cellOf(i / 6, i % 6));
        }
        for (int i = 0; i < 12; i++) {
            String call = what + ": compaction(" + i / 4 + ", " + i % 4 + ")";
            is(call, x.compaction(i / 4, i % 4), y.compaction(i / 4, i % 4));
        }
        for (int i = 0; i < 3; i++) {
            is(what + ": fault(" + i + ")", x.fault(i), y.fault(i));
        }
        int epoch = y.count(3);
        for (int i = 0; i < 60; i++) {
            int tag = tag(Math.max(0, epoch - i / 12), i / 4 % 3, i % 4);
            is(what + ": why(" + tag + ")", x.why(tag), y.why(tag));
        }
    }

    int rows() {
        return rows;
    }

    int wrong() {
        return wrong;
    }

    void end() {
        System.out.println(test + ": " + rows + " rows, " + wrong + " wrong");
        if (wrong != 0) {
            System.exit(1);
        }
    }

    /** The number by which a name is told. */
    static int name(String letters) {
        int name = 0;
        for (int i = 0; i < letters.length(); i++) {
            name = name * 27 + (letters.charAt(i) - 'a' + 1);
        }
        return name;
    }

    /** Names of two letters: aa for 0, ab for 1, and so on, in their order. */
    static int nth(int i) {
        return 27 * (1 + i / 26) + 1 + i % 26;
    }

    static int tag(int epoch, int year, int number) {
        return 1000000 * epoch + 100 * year + number;
    }

    /** Rolls with names at the numbers 0, 1 and so on. */
    static NameRolls rolls(String... names) {
        NameRolls x = new NameRolls();
        for (String name : names) {
            x.acquire(name(name));
        }
        return x;
    }

    /** Rolls whose 40 numbers all have names, nth(0) to nth(39). */
    static NameRolls full() {
        NameRolls x = new NameRolls();
        for (int i = 0; i < 40; i++) {
            x.acquire(nth(i));
        }
        return x;
    }

    /** Rolls with a at 0, which has 999 users, and b at 1; made with 131 calls. */
    static NameRolls crowded() {
        NameRolls x = rolls("a", "b");
        playTwenty(x, "+a;", 49);
        for (int users = 981; users < 999; users++) {
            x.use(0);
        }
        return x;
    }

    /** Rolls in the last epoch, with b at 0, a at 1 and years of 0; made with 132 calls. */
    static NameRolls lastEpoch() {
        NameRolls x = rolls("b", "a");
        playTwenty(x, "!0;", 49);
        for (int epoch = 980; epoch < 999; epoch++) {
            x.compact(2);
        }
        return x;
    }

    private static void playTwenty(NameRolls x, String order, int times) {
        write(x, order.repeat(20));
        for (int i = 0; i < times; i++) {
            x.play();
        }
        x.clearText();
    }

    /** Makes a text the text of the rolls. */
    static void write(NameRolls x, String text) {
        x.clearText();
        for (int i = 0; i < text.length(); i++) {
            x.type(text.charAt(i));
        }
    }

    /** The rows of a text that has a fault; the cause is NOT_FOUND with the reason 3. */
    void fault(NameRolls x, String text, int position, int reason, int cause) {
        told(x, text, position, reason, cause);
        is("\"" + text + "\" play()", x.play(), NOT_POSSIBLE);
    }

    /** The rows of a text that has no fault; it is not played. */
    void noFault(NameRolls x, String text) {
        told(x, text, NOT_FOUND, NOT_FOUND, NOT_FOUND);
    }

    private void told(NameRolls x, String text, int position, int reason, int cause) {
        write(x, text);
        is("\"" + text + "\" fault(0)", x.fault(0), position);
        is("\"" + text + "\" fault(1)", x.fault(1), reason);
        is("\"" + text + "\" fault(2)", x.fault(2), cause);
    }
}
