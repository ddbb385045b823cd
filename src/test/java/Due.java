/** Compares answers with those that are due, and counts the wrong ones. */
final class Due {
    static final int INVALID = NameRolls.INVALID_ARGUMENT;
    static final int NOT_POSSIBLE = NameRolls.NOT_POSSIBLE;
    static final int LIMIT = NameRolls.LIMIT_REACHED;
    static final int NOT_FOUND = NameRolls.NOT_FOUND;
    static final int STALE = NameRolls.STALE;

    private final String test;
    private int wrong;
    private int rows;

    Due(String test) {
        this.test = test;
    }

    void is(String call, long got, long due) {
        rows++;
        if (got != due) {
            wrong++;
            System.out.println(test + ": " + call + " answered " + got + ", due is " + due);
        }
    }

    void end() {
        System.out.println(test + ": " + rows + " rows, " + wrong + " wrong");
        if (wrong != 0) {
            System.exit(1);
        }
    }

    /** The number by which a name is told. */
    static int name(String letters) {
        int name = 0;
        for (int i = 0; i < letters.length(); i++) {
            name = name * 27 + (letters.charAt(i) - 'a' + 1);
        }
        return name;
    }

    static int tag(int epoch, int year, int number) {
        return 1000000 * epoch + 100 * year + number;
    }

    /** Rolls with names at the numbers 0, 1 and so on. */
    static NameRolls rolls(String... names) {
        NameRolls x = new NameRolls();
        for (String name : names) {
            x.acquire(name(name));
        }
        return x;
    }

    /** Makes a text the text of the rolls. */
    static void write(NameRolls x, String text) {
        x.clearText();
        for (int i = 0; i < text.length(); i++) {
            x.type(text.charAt(i));
        }
    }
}
